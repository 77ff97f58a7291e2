/-! the model's ring: found -/
def All (_ : Int → Int) (_ : Int) : Prop := True
theorem pth_1 {A : Int → Int} {s : Int} (s0 : 0 ≤ s) (s1 : s < 7) : Pth A (fun _ => s) 1 := ⟨by omega, s0, fun i _ _ => ⟨Int.le_refl s, s1⟩, fun i j _ _ _ => by omega, fun i _ _ => by omega⟩
theorem m_find_L {h : Int} (h0 : 0 ≤ h) (h7 : h ≤ 7) {A : Int → Int} (hA : WA A) (Z : ZB h A) {now : Nat → Int32} (hn : Arr 71 now A) {b0 : Int → Int} : ∀ (m : Nat) (s : Int) (f : Nat) (L : Int) (b : Int → Int) (ring best : Nat → Int32), 0 ≤ s → s + m = h → m < f → 2 ≤ L → Arr 7 best b → Opt A (fun e _ => e 0 < s) 1000000 b0 L b →
    So (fX12_findRing_L9 (iI h) now f (iI s) (iI L) ring best) (fun o => ∃ (L' : Int) (b' : Int → Int), 2 ≤ L' ∧ o.1 = iI L' ∧ Arr 7 o.2.2 b' ∧ Opt A All 1000000 b0 L' b')
  | 0, s, f + 1, L, b, ring, best, s0, hs, hf, l2, hb, O => by
    rw [fX12_findRing_L9]
    simp (disch := omega) only [gd_t, so_some, so_bind, so_gd, so_none, Option.bind_some, iI_add, iI_sub, iI_mul, iI_neg, iI_clamp, iI_nat, vin_i, iI_le, iI_lt, iI_eq, mn_i, mx_i, if_true, if_false, if_pos, if_neg, li_0, li_1, li_2, li_3, li_4, li_5, li_6, li_7, li_8, li_9, li_10, li_11, li_12, li_14, li_15, li_16, li_20, li_21, li_24, li_28, li_30, li_31, li_40, li_41, li_42, li_43, li_44, li_45, li_47, li_48, li_49, li_57, li_59, li_60, li_61, li_62, li_63, li_70, li_71, li_76, li_80, li_96, li_97, li_98, li_99, li_100, li_101, li_102, li_103, li_104, li_105, li_106, li_107, li_108, li_109, li_110, li_111, li_112, li_113, li_114, li_115, li_116, li_117, li_118, li_119, li_120, li_128, li_142, li_255, li_320, li_781, li_852, li_999, li_1000, li_2000, li_3000, li_9999, li_12345, li_65536, li_1000000, li_252645135, li_858993459, li_1103515245, li_1431655765]
    refine ⟨L, b, l2, rfl, hb, ?_, fun e k he _ => ?_⟩
    · rcases O.1 with w | ⟨w1, w2, _⟩
      · exact Or.inl w
      · exact Or.inr ⟨w1, w2, True.intro⟩
    · refine O.2 e k he ?_
      have k2 := he.1
      have b1 := he.2.1.2.2.1 1 (by omega) (by omega)
      have b0 := he.2.1.2.2.1 0 (by omega) (by omega)
      have p0 := he.2.1.2.1
      have ee : ed A (e 0) (e 1) := he.2.1.2.2.2.2 0 (by omega) (by omega)
      have := (ed_b Z (by omega) (by omega) (by omega) (by omega) ee).1
      show e 0 < s
      omega
  | m + 1, s, f + 1, L, b, ring, best, s0, hs, hf, l2, hb, O => by
    have lO := O.le
    have P : Pth A (fun _ => s) 1 := pth_1 s0 (by omega)
    have r : Arr 1 (upd ring 0 (iI s)) (fun _ => s) := fun x x0 x1 => by rw [show x = 0 by omega]; exact if_pos rfl
    rw [fX12_findRing_L9]
    unfold fX12_goRing
    simp (disch := omega) only [gd_t, so_some, so_bind, so_gd, so_none, Option.bind_some, iI_add, iI_sub, iI_mul, iI_neg, iI_clamp, iI_nat, vin_i, iI_le, iI_lt, iI_eq, mn_i, mx_i, if_true, if_false, if_pos, if_neg, li_0, li_1, li_2, li_3, li_4, li_5, li_6, li_7, li_8, li_9, li_10, li_11, li_12, li_14, li_15, li_16, li_20, li_21, li_24, li_28, li_30, li_31, li_40, li_41, li_42, li_43, li_44, li_45, li_47, li_48, li_49, li_57, li_59, li_60, li_61, li_62, li_63, li_70, li_71, li_76, li_80, li_96, li_97, li_98, li_99, li_100, li_101, li_102, li_103, li_104, li_105, li_106, li_107, li_108, li_109, li_110, li_111, li_112, li_113, li_114, li_115, li_116, li_117, li_118, li_119, li_120, li_128, li_142, li_255, li_320, li_781, li_852, li_999, li_1000, li_2000, li_3000, li_9999, li_12345, li_65536, li_1000000, li_252645135, li_858993459, li_1103515245, li_1431655765, Int.toNat_zero]
    refine so_mono (m_go h0 h7 hA Z hn 10 1 (fun _ => s) L b _ best (by omega) P (by show s < h; omega) l2 lO r hb) ?_
    rintro o ⟨L', b', k1, k2, k3, k4, k5⟩
    rw [k2]
    refine m_find_L h0 h7 hA Z hn m (s + 1) f L' b' _ _ (by omega) (by omega) (by omega) k1 k4 (O.comb k5 (fun e e' k he hp he' hq => ?_) (fun e k he hx => ?_) (fun e k hp => by have hp : e 0 < s := hp; show e 0 < s + 1; omega) (fun e k hq => by have z : e 0 = s := hq.2 0 (by omega) (by omega); show e 0 < s + 1; omega))
    · have hp : e 0 < s := hp
      have e0 : e' 0 = s := hq.2 0 (by omega) (by omega)
      intro i i0 i1 hj
      by_cases z : i = 0
      · rw [z]; omega
      · have := hj 0 (by omega) (by omega)
        omega
    · have hx : e 0 < s + 1 := hx
      by_cases z : e 0 = s
      · refine Or.inr ⟨by have := he.1; omega, fun i i0 i1 => ?_⟩
        rw [show i = 0 by omega]
        exact z
      · exact Or.inl (by show e 0 < s; omega)
/-- the one behind in a ring -/
def nxt (b : Int → Int) (k i : Int) : Int := if i + 1 = k then b 0 else b (i + 1)
def rce (b : Int → Int) (k i : Int) : Int := 21 + (b i * 7 + nxt b k i)
def lsF (A b : Int → Int) (k : Int) : Nat → Int → Int → Int
  | 0, _, v => v
  | m + 1, i, v => lsF A b k m (i + 1) (min v (A (rce b k i)))
theorem Cyc.nb {A b : Int → Int} {k : Int} (C : Cyc A b k) {i : Int} (i0 : 0 ≤ i) (i1 : i < k) : (0 ≤ b i ∧ b i < 7) ∧ (0 ≤ nxt b k i ∧ nxt b k i < 7) ∧ 0 < A (rce b k i) := by
  have p := C.2.1
  have c1 := p.2.1
  have x := p.2.2.1 i i0 i1
  refine ⟨by omega, ?_, ?_⟩
  · unfold nxt
    split
    · have := p.2.2.1 0 (by omega) (by have := C.1; omega); omega
    · have := p.2.2.1 (i + 1) (by omega) (by omega); omega
  · unfold rce nxt
    split
    · have := C.2.2
      rw [show k - 1 = i by omega] at this
      exact this
    · exact p.2.2.2.2 i i0 (by omega)
theorem rem_n {b : Int → Int} {k i : Int} {best : Nat → Int32} (hb : Arr k best b) (k2 : 2 ≤ k) (k7 : k ≤ 7) (i0 : 0 ≤ i) (i1 : i < k) : ∃ j : Int, rem (iI (i + 1)) (iI k) = iI j ∧ 0 ≤ j ∧ j < 7 ∧ best j.toNat = iI (nxt b k i) := by
  refine ⟨(i + 1) % k, iI_rem (by omega) (by omega) (by omega) (by omega), Int.emod_nonneg _ (by omega), ?_, ?_⟩
  · have := Int.emod_lt_of_pos (i + 1) (show 0 < k by omega); omega
  · unfold nxt
    by_cases q : i + 1 = k
    · rw [if_pos q, q, Int.emod_self]
      exact hb.at (by omega) (by omega)
    · rw [if_neg q, Int.emod_eq_of_lt (by omega) (by omega)]
      exact hb.at (by omega) (by omega)
theorem nz_1 {k : Int} (h1 : 1 ≤ k) (h2 : k < 2147483648) : nz (iI k) = true := by
  unfold nz
  simp (disch := omega) only [gd_t, so_some, so_bind, so_gd, so_none, Option.bind_some, iI_add, iI_sub, iI_mul, iI_neg, iI_clamp, iI_nat, vin_i, iI_le, iI_lt, iI_eq, mn_i, mx_i, if_true, if_false, if_pos, if_neg, li_0, li_1, li_2, li_3, li_4, li_5, li_6, li_7, li_8, li_9, li_10, li_11, li_12, li_14, li_15, li_16, li_20, li_21, li_24, li_28, li_30, li_31, li_40, li_41, li_42, li_43, li_44, li_45, li_47, li_48, li_49, li_57, li_59, li_60, li_61, li_62, li_63, li_70, li_71, li_76, li_80, li_96, li_97, li_98, li_99, li_100, li_101, li_102, li_103, li_104, li_105, li_106, li_107, li_108, li_109, li_110, li_111, li_112, li_113, li_114, li_115, li_116, li_117, li_118, li_119, li_120, li_128, li_142, li_255, li_320, li_781, li_852, li_999, li_1000, li_2000, li_3000, li_9999, li_12345, li_65536, li_1000000, li_252645135, li_858993459, li_1103515245, li_1431655765]
  exact decide_eq_true (by omega)
theorem m_least_R {A b : Int → Int} {k : Int} (hA : WA A) (C : Cyc A b k) {now best : Nat → Int32} (hn : Arr 71 now A) (hb : Arr k best b) : ∀ (m : Nat) (i : Int) (f : Nat) (v : Int), 0 ≤ i → i + m = k → m < f → 0 ≤ v → v ≤ 9999 →
    fX12_findRing_L55 now (iI k) best f (iI v) (iI i) = some (iI (lsF A b k m i v)) := by
  have k7 := C.2.1.1
  have k2 := C.1
  have big : ¬ (1000000 : Int32) ≤ iI k := by
    rw [li_1000000, iI_le (by omega) (by omega) (by omega) (by omega)]
    omega
  intro m
  induction m with
  | zero =>
    intro i f v i0 hi hf v0 v1
    obtain ⟨f, rfl⟩ : ∃ g, f = g + 1 := ⟨f - 1, by omega⟩
    rw [fX12_findRing_L55, if_pos ((iI_le (by omega) (by omega) (by omega) (by omega)).2 (by omega))]
    rfl
  | succ m ih =>
    intro i f v i0 hi hf v0 v1
    obtain ⟨f, rfl⟩ : ∃ g, f = g + 1 := ⟨f - 1, by omega⟩
    obtain ⟨x1, x2, x3⟩ := C.nb i0 (show i < k by omega)
    obtain ⟨j, j1, j2, j3, j4⟩ := rem_n hb k2 k7.2 i0 (show i < k by omega)
    have rb : 21 ≤ rce b k i ∧ rce b k i < 70 := by unfold rce; omega
    have a := hA.2.1 (rce b k i) rb.1 rb.2
    have ix : 21 + 7 * b i + nxt b k i = rce b k i := by unfold rce; omega
    rw [fX12_findRing_L55, lsF, if_neg (fun w => by rw [iI_le (by omega) (by omega) (by omega) (by omega)] at w; omega), if_neg big]
    simp only [nz_1 (show 1 ≤ k by omega) (show k < 2147483648 by omega), iI_add, li_1, j1]
    simp (disch := omega) only [gd_t, so_some, so_bind, so_gd, so_none, Option.bind_some, iI_add, iI_sub, iI_mul, iI_neg, iI_clamp, iI_nat, vin_i, iI_le, iI_lt, iI_eq, mn_i, mx_i, if_true, if_false, if_pos, if_neg, li_0, li_1, li_2, li_3, li_4, li_5, li_6, li_7, li_8, li_9, li_10, li_11, li_12, li_14, li_15, li_16, li_20, li_21, li_24, li_28, li_30, li_31, li_40, li_41, li_42, li_43, li_44, li_45, li_47, li_48, li_49, li_57, li_59, li_60, li_61, li_62, li_63, li_70, li_71, li_76, li_80, li_96, li_97, li_98, li_99, li_100, li_101, li_102, li_103, li_104, li_105, li_106, li_107, li_108, li_109, li_110, li_111, li_112, li_113, li_114, li_115, li_116, li_117, li_118, li_119, li_120, li_128, li_142, li_255, li_320, li_781, li_852, li_999, li_1000, li_2000, li_3000, li_9999, li_12345, li_65536, li_1000000, li_252645135, li_858993459, li_1103515245, li_1431655765, hb.at, j4, ix, hn.at]
    exact ih (i + 1) f _ (by omega) (by omega) (by omega) (by omega) (by omega)
theorem lsF_b {A b : Int → Int} {k : Int} (hA : WA A) (C : Cyc A b k) : ∀ (m : Nat) (i v : Int), 0 ≤ i → i + m = k → 0 < v → v ≤ 9999 → (0 < lsF A b k m i v ∧ lsF A b k m i v ≤ v) ∧ (∀ j, i ≤ j → j < k → lsF A b k m i v ≤ A (rce b k j)) ∧ (lsF A b k m i v = v ∨ ∃ j, i ≤ j ∧ j < k ∧ lsF A b k m i v = A (rce b k j))
  | 0, i, v, i0, hi, v0, v1 => ⟨⟨v0, Int.le_refl v⟩, fun j j0 j1 => by omega, Or.inl rfl⟩
  | m + 1, i, v, i0, hi, v0, v1 => by
    obtain ⟨x1, x2, x3⟩ := C.nb i0 (by omega)
    have k7 := C.2.1.1
    have a := hA.2.1 (rce b k i) (by unfold rce; omega) (by unfold rce; omega)
    obtain ⟨y1, y2, y3⟩ := lsF_b hA C m (i + 1) (min v (A (rce b k i))) (by omega) (by omega) (by omega) (by omega)
    rw [lsF]
    refine ⟨⟨y1.1, by omega⟩, fun j j0 j1 => ?_, ?_⟩
    · by_cases q : j = i
      · rw [q]; omega
      · exact y2 j (by omega) j1
    · rcases y3 with w | ⟨j, j0, j1, w⟩
      · by_cases q : v ≤ A (rce b k i)
        · left; omega
        · exact Or.inr ⟨i, by omega, by omega, by omega⟩
      · exact Or.inr ⟨j, by omega, j1, w⟩
/-- its least debt -/
def lst (A b : Int → Int) (k : Int) : Int := lsF A b k k.toNat 0 9999
theorem lst_b {A b : Int → Int} {k : Int} (hA : WA A) (C : Cyc A b k) : (0 < lst A b k ∧ lst A b k ≤ 9999) ∧ (∀ j, 0 ≤ j → j < k → lst A b k ≤ A (rce b k j)) ∧ ∃ j, 0 ≤ j ∧ j < k ∧ lst A b k = A (rce b k j) := by
  have k2 := C.1
  obtain ⟨y1, y2, y3⟩ := lsF_b hA C k.toNat 0 9999 (by omega) (by omega) (by omega) (by omega)
  refine ⟨y1, y2, ?_⟩
  rcases y3 with w | w
  · obtain ⟨x1, x2, x3⟩ := C.nb (i := 0) (by omega) (by omega)
    have a := hA.2.1 (rce b k 0) (by unfold rce; omega) (by unfold rce; omega)
    have z := y2 0 (by omega) (by omega)
    refine ⟨0, by omega, by omega, ?_⟩
    unfold lst
    omega
  · exact w
theorem m_findRing {h : Int} (h0 : 0 ≤ h) (h7 : h ≤ 7) {A : Int → Int} (hA : WA A) (Z : ZB h A) {now : Nat → Int32} (hn : Arr 71 now A) (L0 : Int32) (ring best : Nat → Int32) :
    So (fX12_findRing (iI h) L0 ring now best) (fun o => ((∀ e k, ¬ Cyc A e k) ∧ o.1 = iI 0) ∨ (∃ L b, Cyc A b L ∧ (∀ e k, Cyc A e k → L ≤ k ∧ (k = L → Lx b e k)) ∧ o.1 = iI (lst A b L) ∧ o.2.1 = iI L ∧ Arr L o.2.2.2 b)) := by
  unfold fX12_findRing
  simp only [li_0, li_1000000, so_bind]
  refine so_mono (m_find_L h0 h7 hA Z hn h.toNat 0 FU 1000000 _ ring best (by omega) (by omega) (show _ < 4000 by omega) (by omega) (arr_any 7 best) ⟨Or.inl ⟨rfl, rfl⟩, fun e k he hx => by have := he.2.1.2.1; have hx : e 0 < 0 := hx; omega⟩) ?_
  rintro o ⟨L, b, l2, o1, o2, O⟩
  rw [o1]
  have lO := O.le
  rcases O.1 with ⟨rfl, -⟩ | ⟨w1, w2, -⟩
  · have e : fX12_findRing_L55 now (iI 1000000) o.2.2 FU (iI 0) (iI 0) = some (iI 0) := by
      rw [show FU = 3999 + 1 from rfl, fX12_findRing_L55]
      simp (disch := omega) only [gd_t, so_some, so_bind, so_gd, so_none, Option.bind_some, iI_add, iI_sub, iI_mul, iI_neg, iI_clamp, iI_nat, vin_i, iI_le, iI_lt, iI_eq, mn_i, mx_i, if_true, if_false, if_pos, if_neg, li_0, li_1, li_2, li_3, li_4, li_5, li_6, li_7, li_8, li_9, li_10, li_11, li_12, li_14, li_15, li_16, li_20, li_21, li_24, li_28, li_30, li_31, li_40, li_41, li_42, li_43, li_44, li_45, li_47, li_48, li_49, li_57, li_59, li_60, li_61, li_62, li_63, li_70, li_71, li_76, li_80, li_96, li_97, li_98, li_99, li_100, li_101, li_102, li_103, li_104, li_105, li_106, li_107, li_108, li_109, li_110, li_111, li_112, li_113, li_114, li_115, li_116, li_117, li_118, li_119, li_120, li_128, li_142, li_255, li_320, li_781, li_852, li_999, li_1000, li_2000, li_3000, li_9999, li_12345, li_65536, li_1000000, li_252645135, li_858993459, li_1103515245, li_1431655765]
    simp (disch := omega) only [gd_t, so_some, so_bind, so_gd, so_none, Option.bind_some, iI_add, iI_sub, iI_mul, iI_neg, iI_clamp, iI_nat, vin_i, iI_le, iI_lt, iI_eq, mn_i, mx_i, if_true, if_false, if_pos, if_neg, li_0, li_1, li_2, li_3, li_4, li_5, li_6, li_7, li_8, li_9, li_10, li_11, li_12, li_14, li_15, li_16, li_20, li_21, li_24, li_28, li_30, li_31, li_40, li_41, li_42, li_43, li_44, li_45, li_47, li_48, li_49, li_57, li_59, li_60, li_61, li_62, li_63, li_70, li_71, li_76, li_80, li_96, li_97, li_98, li_99, li_100, li_101, li_102, li_103, li_104, li_105, li_106, li_107, li_108, li_109, li_110, li_111, li_112, li_113, li_114, li_115, li_116, li_117, li_118, li_119, li_120, li_128, li_142, li_255, li_320, li_781, li_852, li_999, li_1000, li_2000, li_3000, li_9999, li_12345, li_65536, li_1000000, li_252645135, li_858993459, li_1103515245, li_1431655765, e]
    refine Or.inl ⟨fun e k he => ?_, (by first | rfl | trivial)⟩
    have := (O.2 e k he True.intro).1
    have := he.2.1.1
    omega
  · have k7 := w2.2.1.1
    have hb : Arr L o.2.2 b := o2.le k7.2
    have e := m_least_R hA w2 hn hb L.toNat 0 FU 9999 (by omega) (by omega) (show _ < 4000 by omega) (by omega) (by omega)
    simp (disch := omega) only [gd_t, so_some, so_bind, so_gd, so_none, Option.bind_some, iI_add, iI_sub, iI_mul, iI_neg, iI_clamp, iI_nat, vin_i, iI_le, iI_lt, iI_eq, mn_i, mx_i, if_true, if_false, if_pos, if_neg, li_0, li_1, li_2, li_3, li_4, li_5, li_6, li_7, li_8, li_9, li_10, li_11, li_12, li_14, li_15, li_16, li_20, li_21, li_24, li_28, li_30, li_31, li_40, li_41, li_42, li_43, li_44, li_45, li_47, li_48, li_49, li_57, li_59, li_60, li_61, li_62, li_63, li_70, li_71, li_76, li_80, li_96, li_97, li_98, li_99, li_100, li_101, li_102, li_103, li_104, li_105, li_106, li_107, li_108, li_109, li_110, li_111, li_112, li_113, li_114, li_115, li_116, li_117, li_118, li_119, li_120, li_128, li_142, li_255, li_320, li_781, li_852, li_999, li_1000, li_2000, li_3000, li_9999, li_12345, li_65536, li_1000000, li_252645135, li_858993459, li_1103515245, li_1431655765, e]
    exact Or.inr ⟨L, b, w2, fun e k he => ⟨(O.2 e k he True.intro).1, (O.2 e k he True.intro).2 w1⟩, (by first | rfl | trivial), (by first | rfl | trivial), hb⟩
/-- the debts of a ring, less v -/
def clF (b : Int → Int) (k v : Int) : Nat → Int → (Int → Int) → Int → Int
  | 0, _, A => A
  | m + 1, i, A => clF b k v m (i + 1) (upI A (rce b k i) (A (rce b k i) - v))
theorem rce_ne {A b : Int → Int} {k : Int} (C : Cyc A b k) {i j : Int} (i0 : 0 ≤ i) (ij : i < j) (j1 : j < k) : rce b k i ≠ rce b k j := by
  obtain ⟨x1, x2, x3⟩ := C.nb i0 (by omega)
  obtain ⟨y1, y2, y3⟩ := C.nb (i := j) (by omega) j1
  have := C.2.1.2.2.2.1 i j i0 ij j1
  unfold rce
  omega
theorem clF_ok {A b : Int → Int} {k v : Int} (C : Cyc A b k) : ∀ (m : Nat) (i : Int) (B : Int → Int), 0 ≤ i → i + m = k → (∀ j, i ≤ j → j < k → B (rce b k j) = A (rce b k j)) → (∀ x, B x = A x ∨ (B x = A x - v ∧ ∃ j, 0 ≤ j ∧ j < i ∧ x = rce b k j)) →
    (∀ x, clF b k v m i B x = A x ∨ (clF b k v m i B x = A x - v ∧ ∃ j, 0 ≤ j ∧ j < k ∧ x = rce b k j)) ∧ ∀ j, (i ≤ j → j < k → clF b k v m i B (rce b k j) = A (rce b k j) - v) ∧ (0 ≤ j → j < i → clF b k v m i B (rce b k j) = B (rce b k j))
  | 0, i, B, i0, hi, h1, h2 => by
    refine ⟨fun x => ?_, fun j => ⟨fun j0 j1 => by omega, fun _ _ => rfl⟩⟩
    rcases h2 x with w | ⟨w, j, j0, j1, e⟩
    · exact Or.inl w
    · exact Or.inr ⟨w, j, j0, by omega, e⟩
  | m + 1, i, B, i0, hi, h1, h2 => by
    have ih := clF_ok (A := A) (v := v) C m (i + 1) (upI B (rce b k i) (B (rce b k i) - v)) (by omega) (by omega) (fun j j0 j1 => by rw [upI_o _ (fun w => rce_ne C i0 (show i < j by omega) j1 w.symm)]; exact h1 j (by omega) j1) (fun x => by
      by_cases q : x = rce b k i
      · rw [q, upI_s, h1 i (by omega) (by omega)]
        exact Or.inr ⟨rfl, i, i0, by omega, rfl⟩
      · rw [upI_o _ q]
        rcases h2 x with w | ⟨w, j, j0, j1, e⟩
        · exact Or.inl w
        · exact Or.inr ⟨w, j, j0, by omega, e⟩)
    rw [clF]
    refine ⟨ih.1, fun j => ⟨fun j0 j1 => ?_, fun j0 j1 => ?_⟩⟩
    · by_cases q : j = i
      · rw [q, (ih.2 i).2 i0 (by omega), upI_s, h1 i (by omega) (by omega)]
      · exact (ih.2 j).1 (by omega) j1
    · rw [(ih.2 j).2 j0 (by omega), upI_o _ (fun w => rce_ne C j0 j1 (by omega) w)]
def clA (A b : Int → Int) (k : Int) : Int → Int := clF b k (lst A b k) k.toNat 0 A
theorem clA_ok {h n : Int} (h7 : h ≤ 7) {A b : Int → Int} {k : Int} (H : SG h n A) (C : Cyc A b k) : SG h n (clA A b k) ∧ (∀ x, x < 21 ∨ 70 ≤ x → clA A b k x = A x) ∧ (∀ x, 0 ≤ clA A b k x ∨ clA A b k x = A x) ∧ (∀ x, clA A b k x ≤ A x) ∧ ∃ j, 0 ≤ j ∧ j < k ∧ 0 < A (rce b k j) ∧ clA A b k (rce b k j) = 0 := by
  have k2 := C.1
  obtain ⟨l1, l2, j, j0, j1, l3⟩ := lst_b H.1 C
  obtain ⟨y1, y2⟩ := clF_ok (A := A) (v := lst A b k) C k.toNat 0 A (by omega) (by omega) (fun _ _ _ => rfl) (fun x => Or.inl rfl)
  have rb : ∀ i, 0 ≤ i → i < k → 21 ≤ rce b k i ∧ rce b k i < 70 ∧ 0 < A (rce b k i) := fun i i0 i1 => by
    obtain ⟨x1, x2, x3⟩ := C.nb i0 i1
    refine ⟨?_, ?_, x3⟩
    · unfold rce; omega
    · unfold rce; omega
  have b1 : ∀ x, 0 ≤ clA A b k x ∨ clA A b k x = A x := fun x => by
    rcases y1 x with w | ⟨w, i, i0, i1, e⟩
    · exact Or.inr w
    · left
      have := l2 i i0 i1
      rw [← e] at this
      show 0 ≤ clF b k (lst A b k) k.toNat 0 A x
      omega
  have b2 : ∀ x, clA A b k x ≤ A x := fun x => by
    show clF b k (lst A b k) k.toNat 0 A x ≤ _
    rcases y1 x with w | ⟨w, i, i0, i1, e⟩
    · omega
    · omega
  have b3 : ∀ x, x < 21 ∨ 70 ≤ x → clA A b k x = A x := fun x hx => by
    rcases y1 x with w | ⟨w, i, i0, i1, e⟩
    · exact w
    · have := rb i i0 i1
      omega
  have b4 : ∀ x, A x = 0 → clA A b k x = 0 := fun x hx => by
    rcases y1 x with w | ⟨w, i, i0, i1, e⟩
    · exact w.trans hx
    · have := rb i i0 i1
      rw [← e] at this
      omega
  refine ⟨⟨⟨fun i i0 i1 => ?_, fun i i0 i1 => ?_, ?_⟩, ⟨fun i i0 i1 => ?_, fun i i0 i1 => ?_, fun i j i0 i1 j0 j1 q => ?_⟩, ?_⟩, b3, b1, b2, j, j0, j1, (rb j j0 j1).2.2, ?_⟩
  · rw [b3 i (by omega)]; exact H.1.1 i i0 i1
  · have := H.1.2.1 i i0 i1
    have := b2 i
    rcases b1 i with w | w <;> omega
  · rw [b3 70 (by omega)]; exact H.1.2.2
  · rw [b3 i (by omega)]; exact H.2.1.1 i i0 i1
  · by_cases w : 14 + i < 21
    · rw [b3 _ (by omega)]; exact H.2.1.2.1 i i0 i1
    · omega
  · exact b4 _ (H.2.1.2.2 i j i0 i1 j0 j1 q)
  · rw [b3 70 (by omega)]; exact H.2.2
  · show clF b k (lst A b k) k.toNat 0 A (rce b k j) = 0
    rw [(y2 j).1 j0 j1]
    omega
theorem m_clear_L {A b : Int → Int} {k v : Int} (C : Cyc A b k) {best : Nat → Int32} (hb : Arr k best b) : ∀ (m : Nat) (i : Int) (f : Nat) (now : Nat → Int32) (B : Int → Int), 0 ≤ i → i + m = k → m < f → Arr 71 now B →
    So (fX12_clearRing_L2 (iI k) best (iI v) f (iI i) now) (fun o => Arr 71 o (clF b k v m i B))
  | 0, i, f + 1, now, B, i0, hi, hf, hn => by
    have k7 := C.2.1.1
    rw [fX12_clearRing_L2]
    simp (disch := omega) only [gd_t, so_some, so_bind, so_gd, so_none, Option.bind_some, iI_add, iI_sub, iI_mul, iI_neg, iI_clamp, iI_nat, vin_i, iI_le, iI_lt, iI_eq, mn_i, mx_i, if_true, if_false, if_pos, if_neg, li_0, li_1, li_2, li_3, li_4, li_5, li_6, li_7, li_8, li_9, li_10, li_11, li_12, li_14, li_15, li_16, li_20, li_21, li_24, li_28, li_30, li_31, li_40, li_41, li_42, li_43, li_44, li_45, li_47, li_48, li_49, li_57, li_59, li_60, li_61, li_62, li_63, li_70, li_71, li_76, li_80, li_96, li_97, li_98, li_99, li_100, li_101, li_102, li_103, li_104, li_105, li_106, li_107, li_108, li_109, li_110, li_111, li_112, li_113, li_114, li_115, li_116, li_117, li_118, li_119, li_120, li_128, li_142, li_255, li_320, li_781, li_852, li_999, li_1000, li_2000, li_3000, li_9999, li_12345, li_65536, li_1000000, li_252645135, li_858993459, li_1103515245, li_1431655765]
    exact hn
  | m + 1, i, f + 1, now, B, i0, hi, hf, hn => by
    have k7 := C.2.1.1
    have k2 := C.1
    obtain ⟨x1, x2, x3⟩ := C.nb i0 (by omega)
    obtain ⟨j, j1, j2, j3, j4⟩ := rem_n hb k2 k7.2 i0 (by omega)
    have ix : 21 + 7 * b i + nxt b k i = rce b k i := by unfold rce; omega
    have rb : 21 ≤ rce b k i ∧ rce b k i < 70 := by unfold rce; omega
    rw [fX12_clearRing_L2, clF]
    simp only [nz_1 (show 1 ≤ k by omega) (show k < 2147483648 by omega), iI_add, li_1, j1]
    simp (disch := omega) only [gd_t, so_some, so_bind, so_gd, so_none, Option.bind_some, iI_add, iI_sub, iI_mul, iI_neg, iI_clamp, iI_nat, vin_i, iI_le, iI_lt, iI_eq, mn_i, mx_i, if_true, if_false, if_pos, if_neg, li_0, li_1, li_2, li_3, li_4, li_5, li_6, li_7, li_8, li_9, li_10, li_11, li_12, li_14, li_15, li_16, li_20, li_21, li_24, li_28, li_30, li_31, li_40, li_41, li_42, li_43, li_44, li_45, li_47, li_48, li_49, li_57, li_59, li_60, li_61, li_62, li_63, li_70, li_71, li_76, li_80, li_96, li_97, li_98, li_99, li_100, li_101, li_102, li_103, li_104, li_105, li_106, li_107, li_108, li_109, li_110, li_111, li_112, li_113, li_114, li_115, li_116, li_117, li_118, li_119, li_120, li_128, li_142, li_255, li_320, li_781, li_852, li_999, li_1000, li_2000, li_3000, li_9999, li_12345, li_65536, li_1000000, li_252645135, li_858993459, li_1103515245, li_1431655765, hb.at, j4, ix, hn.at]
    exact m_clear_L C hb m (i + 1) f _ _ (by omega) (by omega) (by omega) (hn.up _ (by omega))
theorem m_clearRing {A b : Int → Int} {k : Int} (C : Cyc A b k) {best now : Nat → Int32} (hb : Arr k best b) (hn : Arr 71 now A) : So (fX12_clearRing (iI k) best now (iI (lst A b k))) (fun o => o.1 = iI (lst A b k * k) ∧ Arr 71 o.2 (clA A b k)) := by
  have k7 := C.2.1.1
  unfold fX12_clearRing
  simp only [so_bind, so_some, li_0, iI_mul]
  refine so_mono (m_clear_L (v := lst A b k) C hb k.toNat 0 FU now A (by omega) (by omega) (show _ < 4000 by omega) hn) ?_
  intro o ho
  exact ⟨(by first | rfl | trivial), ho⟩
