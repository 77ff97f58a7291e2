/-! rings -/
def ed (A : Int → Int) (a b : Int) : Prop := 0 < A (21 + (a * 7 + b))
def Pth (A : Int → Int) (c : Int → Int) (n : Int) : Prop :=
  (1 ≤ n ∧ n ≤ 7) ∧ 0 ≤ c 0 ∧ (∀ i, 0 ≤ i → i < n → c 0 ≤ c i ∧ c i < 7) ∧ (∀ i j, 0 ≤ i → i < j → j < n → c i ≠ c j) ∧ (∀ i, 0 ≤ i → i + 1 < n → ed A (c i) (c (i + 1)))
def Cyc (A : Int → Int) (c : Int → Int) (k : Int) : Prop := 2 ≤ k ∧ Pth A c k ∧ ed A (c (k - 1)) (c 0)
def Lx (b e : Int → Int) (k : Int) : Prop := ∀ i, 0 ≤ i → i < k → (∀ j, 0 ≤ j → j < i → b j = e j) → b i ≤ e i
/-- the best so far, of a family -/
def Opt (A : Int → Int) (P : (Int → Int) → Int → Prop) (L0 : Int) (b0 : Int → Int) (L : Int) (b : Int → Int) : Prop :=
  ((L = L0 ∧ b = b0) ∨ (L < L0 ∧ Cyc A b L ∧ P b L)) ∧ ∀ e k, Cyc A e k → P e k → L ≤ k ∧ (L < L0 → k = L → Lx b e k)
theorem Opt.le {A : Int → Int} {P : (Int → Int) → Int → Prop} {L0 L : Int} {b0 b : Int → Int} (H : Opt A P L0 b0 L b) : L ≤ L0 := by
  rcases H.1 with h | h
  · omega
  · omega
theorem Opt.comb {A : Int → Int} {P Q S : (Int → Int) → Int → Prop} {L0 L L' : Int} {b0 b b' : Int → Int} (H1 : Opt A P L0 b0 L b) (H2 : Opt A Q L b L' b')
    (hPQ : ∀ e e' k, Cyc A e k → P e k → Cyc A e' k → Q e' k → Lx e e' k) (hS : ∀ e k, Cyc A e k → S e k → P e k ∨ Q e k) (hP : ∀ e k, P e k → S e k) (hQ : ∀ e k, Q e k → S e k) : Opt A S L0 b0 L' b' := by
  have l1 := H1.le
  have l2 := H2.le
  obtain ⟨h2, g2⟩ := H2
  obtain ⟨h1, g1⟩ := H1
  rcases h2 with ⟨rfl, rfl⟩ | ⟨q, qc, qq⟩
  · refine ⟨?_, fun e k he hs => ?_⟩
    · rcases h1 with h | ⟨p, pc, pp⟩
      · exact Or.inl h
      · exact Or.inr ⟨p, pc, hP _ _ pp⟩
    · rcases hS e k he hs with w | w
      · exact g1 e k he w
      · have z := g2 e k he w
        refine ⟨z.1, fun x y => ?_⟩
        rcases h1 with h | ⟨p, pc, pp⟩
        · omega
        · subst y
          exact hPQ _ _ _ pc pp he w
  · refine ⟨Or.inr ⟨by omega, qc, hQ _ _ qq⟩, fun e k he hs => ?_⟩
    rcases hS e k he hs with w | w
    · have z := g1 e k he w
      exact ⟨by omega, fun _ y => by omega⟩
    · have z := g2 e k he w
      exact ⟨z.1, fun _ y => z.2 q y⟩
theorem Lx_eq {b e : Int → Int} {k : Int} (h1 : Lx b e k) (h2 : Lx e b k) : ∀ (m : Nat) (i : Int), 0 ≤ i → i < k → i < m → b i = e i
  | 0, i, i0, _, hm => by omega
  | m + 1, i, i0, ik, hm => by
    have p : ∀ j, 0 ≤ j → j < i → b j = e j := fun j j0 ji => Lx_eq h1 h2 m j j0 (by omega) (by omega)
    have x := h1 i i0 ik p
    have y := h2 i i0 ik (fun j j0 ji => (p j j0 ji).symm)
    omega
/-- the model's search: all ways to go on -/
theorem m_L76 {n : Int} (n1 : n ≤ 7) {ring : Nat → Int32} {c : Int → Int} (hc : Arr n ring c) : ∀ (m : Nat) (k : Int) (f : Nat) (best : Nat → Int32) (b : Int → Int), 0 ≤ k → k + m = n → m < f → Arr 7 best b →
    So (fX12_goRing_L76 (iI n) ring f (iI k) best) (fun o => Arr 7 o (fun i => if k ≤ i ∧ i < n then c i else b i))
  | 0, k, f + 1, best, b, k0, hk, hf, hb => by
    rw [fX12_goRing_L76]
    simp (disch := omega) only [gd_t, so_some, so_bind, so_gd, so_none, Option.bind_some, iI_add, iI_sub, iI_mul, iI_neg, iI_clamp, iI_nat, vin_i, iI_le, iI_lt, iI_eq, mn_i, mx_i, if_true, if_false, if_pos, if_neg, li_0, li_1, li_2, li_3, li_4, li_5, li_6, li_7, li_8, li_9, li_10, li_11, li_12, li_14, li_15, li_16, li_20, li_21, li_24, li_28, li_30, li_31, li_40, li_41, li_42, li_43, li_44, li_45, li_47, li_48, li_49, li_57, li_59, li_60, li_61, li_62, li_63, li_70, li_71, li_76, li_80, li_96, li_97, li_98, li_99, li_100, li_101, li_102, li_103, li_104, li_105, li_106, li_107, li_108, li_109, li_110, li_111, li_112, li_113, li_114, li_115, li_116, li_117, li_118, li_119, li_120, li_128, li_142, li_255, li_320, li_781, li_852, li_999, li_1000, li_2000, li_3000, li_9999, li_12345, li_65536, li_1000000, li_252645135, li_858993459, li_1103515245, li_1431655765]
    exact hb
  | m + 1, k, f + 1, best, b, k0, hk, hf, hb => by
    rw [fX12_goRing_L76]
    simp (disch := omega) only [gd_t, so_some, so_bind, so_gd, so_none, Option.bind_some, iI_add, iI_sub, iI_mul, iI_neg, iI_clamp, iI_nat, vin_i, iI_le, iI_lt, iI_eq, mn_i, mx_i, if_true, if_false, if_pos, if_neg, li_0, li_1, li_2, li_3, li_4, li_5, li_6, li_7, li_8, li_9, li_10, li_11, li_12, li_14, li_15, li_16, li_20, li_21, li_24, li_28, li_30, li_31, li_40, li_41, li_42, li_43, li_44, li_45, li_47, li_48, li_49, li_57, li_59, li_60, li_61, li_62, li_63, li_70, li_71, li_76, li_80, li_96, li_97, li_98, li_99, li_100, li_101, li_102, li_103, li_104, li_105, li_106, li_107, li_108, li_109, li_110, li_111, li_112, li_113, li_114, li_115, li_116, li_117, li_118, li_119, li_120, li_128, li_142, li_255, li_320, li_781, li_852, li_999, li_1000, li_2000, li_3000, li_9999, li_12345, li_65536, li_1000000, li_252645135, li_858993459, li_1103515245, li_1431655765, hc.at]
    refine so_mono (m_L76 n1 hc m (k + 1) f _ _ (by omega) (by omega) (by omega) (hb.up (c k) k0)) ?_
    intro o ho
    refine ho.congr (fun x x0 x1 => ?_)
    by_cases q : x = k
    · rw [q, if_neg (by omega), upI_s, if_pos (by omega)]
    · rw [upI_o _ q]
      by_cases w : k + 1 ≤ x ∧ x < n
      · rw [if_pos w, if_pos (by omega)]
      · rw [if_neg w, if_neg (by omega)]
theorem m_L105_1 {n v : Int} (n1 : n ≤ 7) {ring : Nat → Int32} : ∀ (m : Nat) (k : Int) (f : Nat), 0 ≤ k → k + m = n → m < f → fX12_goRing_L105 (iI n) (iI v) ring f (iI 1) (iI k) = some (iI 1)
  | 0, k, f + 1, k0, hk, hf => by
    rw [fX12_goRing_L105]
    simp (disch := omega) only [gd_t, so_some, so_bind, so_gd, so_none, Option.bind_some, iI_add, iI_sub, iI_mul, iI_neg, iI_clamp, iI_nat, vin_i, iI_le, iI_lt, iI_eq, mn_i, mx_i, if_true, if_false, if_pos, if_neg, li_0, li_1, li_2, li_3, li_4, li_5, li_6, li_7, li_8, li_9, li_10, li_11, li_12, li_14, li_15, li_16, li_20, li_21, li_24, li_28, li_30, li_31, li_40, li_41, li_42, li_43, li_44, li_45, li_47, li_48, li_49, li_57, li_59, li_60, li_61, li_62, li_63, li_70, li_71, li_76, li_80, li_96, li_97, li_98, li_99, li_100, li_101, li_102, li_103, li_104, li_105, li_106, li_107, li_108, li_109, li_110, li_111, li_112, li_113, li_114, li_115, li_116, li_117, li_118, li_119, li_120, li_128, li_142, li_255, li_320, li_781, li_852, li_999, li_1000, li_2000, li_3000, li_9999, li_12345, li_65536, li_1000000, li_252645135, li_858993459, li_1103515245, li_1431655765]
  | m + 1, k, f + 1, k0, hk, hf => by
    rw [fX12_goRing_L105]
    simp (disch := omega) only [gd_t, so_some, so_bind, so_gd, so_none, Option.bind_some, iI_add, iI_sub, iI_mul, iI_neg, iI_clamp, iI_nat, vin_i, iI_le, iI_lt, iI_eq, mn_i, mx_i, if_true, if_false, if_pos, if_neg, li_0, li_1, li_2, li_3, li_4, li_5, li_6, li_7, li_8, li_9, li_10, li_11, li_12, li_14, li_15, li_16, li_20, li_21, li_24, li_28, li_30, li_31, li_40, li_41, li_42, li_43, li_44, li_45, li_47, li_48, li_49, li_57, li_59, li_60, li_61, li_62, li_63, li_70, li_71, li_76, li_80, li_96, li_97, li_98, li_99, li_100, li_101, li_102, li_103, li_104, li_105, li_106, li_107, li_108, li_109, li_110, li_111, li_112, li_113, li_114, li_115, li_116, li_117, li_118, li_119, li_120, li_128, li_142, li_255, li_320, li_781, li_852, li_999, li_1000, li_2000, li_3000, li_9999, li_12345, li_65536, li_1000000, li_252645135, li_858993459, li_1103515245, li_1431655765]
    exact m_L105_1 n1 m (k + 1) f (by omega) (by omega) (by omega)
theorem m_L105 {n v : Int} (n1 : n ≤ 7) (v0 : 0 ≤ v) (v1 : v < 7) {ring : Nat → Int32} {c : Int → Int} (hc : Arr n ring c) (cb : ∀ i, 0 ≤ i → i < n → 0 ≤ c i ∧ c i < 7) : ∀ (m : Nat) (k : Int) (f : Nat), 0 ≤ k → k + m = n → m < f →
    (fX12_goRing_L105 (iI n) (iI v) ring f (iI 0) (iI k) = some (iI 1) ∧ ∃ i, k ≤ i ∧ i < n ∧ c i = v) ∨ (fX12_goRing_L105 (iI n) (iI v) ring f (iI 0) (iI k) = some (iI 0) ∧ ∀ i, k ≤ i → i < n → c i ≠ v)
  | 0, k, f + 1, k0, hk, hf => by
    rw [fX12_goRing_L105]
    simp (disch := omega) only [gd_t, so_some, so_bind, so_gd, so_none, Option.bind_some, iI_add, iI_sub, iI_mul, iI_neg, iI_clamp, iI_nat, vin_i, iI_le, iI_lt, iI_eq, mn_i, mx_i, if_true, if_false, if_pos, if_neg, li_0, li_1, li_2, li_3, li_4, li_5, li_6, li_7, li_8, li_9, li_10, li_11, li_12, li_14, li_15, li_16, li_20, li_21, li_24, li_28, li_30, li_31, li_40, li_41, li_42, li_43, li_44, li_45, li_47, li_48, li_49, li_57, li_59, li_60, li_61, li_62, li_63, li_70, li_71, li_76, li_80, li_96, li_97, li_98, li_99, li_100, li_101, li_102, li_103, li_104, li_105, li_106, li_107, li_108, li_109, li_110, li_111, li_112, li_113, li_114, li_115, li_116, li_117, li_118, li_119, li_120, li_128, li_142, li_255, li_320, li_781, li_852, li_999, li_1000, li_2000, li_3000, li_9999, li_12345, li_65536, li_1000000, li_252645135, li_858993459, li_1103515245, li_1431655765]
    exact Or.inr ⟨(by first | rfl | trivial), fun i i0 i1 => by omega⟩
  | m + 1, k, f + 1, k0, hk, hf => by
    have x := cb k k0 (by omega)
    rw [fX12_goRing_L105]
    by_cases q : c k = v
    · have e := m_L105_1 (n := n) (v := v) n1 (ring := ring) m (k + 1) f (by omega) (by omega) (by omega)
      simp (disch := omega) only [gd_t, so_some, so_bind, so_gd, so_none, Option.bind_some, iI_add, iI_sub, iI_mul, iI_neg, iI_clamp, iI_nat, vin_i, iI_le, iI_lt, iI_eq, mn_i, mx_i, if_true, if_false, if_pos, if_neg, li_0, li_1, li_2, li_3, li_4, li_5, li_6, li_7, li_8, li_9, li_10, li_11, li_12, li_14, li_15, li_16, li_20, li_21, li_24, li_28, li_30, li_31, li_40, li_41, li_42, li_43, li_44, li_45, li_47, li_48, li_49, li_57, li_59, li_60, li_61, li_62, li_63, li_70, li_71, li_76, li_80, li_96, li_97, li_98, li_99, li_100, li_101, li_102, li_103, li_104, li_105, li_106, li_107, li_108, li_109, li_110, li_111, li_112, li_113, li_114, li_115, li_116, li_117, li_118, li_119, li_120, li_128, li_142, li_255, li_320, li_781, li_852, li_999, li_1000, li_2000, li_3000, li_9999, li_12345, li_65536, li_1000000, li_252645135, li_858993459, li_1103515245, li_1431655765, hc.at, e]
      exact Or.inl ⟨(by first | rfl | trivial), k, by omega, by omega, q⟩
    · simp (disch := omega) only [gd_t, so_some, so_bind, so_gd, so_none, Option.bind_some, iI_add, iI_sub, iI_mul, iI_neg, iI_clamp, iI_nat, vin_i, iI_le, iI_lt, iI_eq, mn_i, mx_i, if_true, if_false, if_pos, if_neg, li_0, li_1, li_2, li_3, li_4, li_5, li_6, li_7, li_8, li_9, li_10, li_11, li_12, li_14, li_15, li_16, li_20, li_21, li_24, li_28, li_30, li_31, li_40, li_41, li_42, li_43, li_44, li_45, li_47, li_48, li_49, li_57, li_59, li_60, li_61, li_62, li_63, li_70, li_71, li_76, li_80, li_96, li_97, li_98, li_99, li_100, li_101, li_102, li_103, li_104, li_105, li_106, li_107, li_108, li_109, li_110, li_111, li_112, li_113, li_114, li_115, li_116, li_117, li_118, li_119, li_120, li_128, li_142, li_255, li_320, li_781, li_852, li_999, li_1000, li_2000, li_3000, li_9999, li_12345, li_65536, li_1000000, li_252645135, li_858993459, li_1103515245, li_1431655765, hc.at]
      rcases m_L105 n1 v0 v1 hc cb m (k + 1) f (by omega) (by omega) (by omega) with ⟨h1, i, h2, h3, h4⟩ | ⟨h1, h2⟩
      · exact Or.inl ⟨h1, i, by omega, h3, h4⟩
      · refine Or.inr ⟨h1, fun i i0 i1 => ?_⟩
        by_cases w : i = k
        · rw [w]; exact q
        · exact h2 i (by omega) i1
theorem Pth.up {A : Int → Int} {c : Int → Int} {n v : Int} (H : Pth A c n) (n7 : n < 7) (h1 : c 0 ≤ v) (h2 : v < 7) (h3 : ∀ i, 0 ≤ i → i < n → c i ≠ v) (h4 : ed A (c (n - 1)) v) : Pth A (upI c n v) (n + 1) := by
  obtain ⟨p1, p2, p3, p4, p5⟩ := H
  have e0 : upI c n v 0 = c 0 := upI_o _ (by omega)
  refine ⟨by omega, by rw [e0]; exact p2, fun i i0 i1 => ?_, fun i j i0 ij j1 => ?_, fun i i0 i1 => ?_⟩
  · rw [e0]
    by_cases q : i = n
    · rw [q, upI_s]; exact ⟨h1, h2⟩
    · rw [upI_o _ q]; exact p3 i i0 (by omega)
  · rw [upI_o (i := i) _ (by omega)]
    by_cases q : j = n
    · rw [q, upI_s]; exact h3 i i0 (by omega)
    · rw [upI_o _ q]; exact p4 i j i0 ij (by omega)
  · rw [upI_o (i := i) _ (by omega)]
    by_cases q : i + 1 = n
    · rw [q, upI_s, show i = n - 1 by omega]; exact h4
    · rw [upI_o _ q]; exact p5 i i0 (by omega)
theorem Cyc.congr {A : Int → Int} {c d : Int → Int} {k : Int} (H : Cyc A c k) (h : ∀ i, 0 ≤ i → i < k → d i = c i) : Cyc A d k := by
  obtain ⟨k2, ⟨p1, p2, p3, p4, p5⟩, p6⟩ := H
  refine ⟨k2, ⟨p1, by rw [h 0 (by omega) (by omega)]; exact p2, fun i i0 i1 => ?_, fun i j i0 ij j1 => ?_, fun i i0 i1 => ?_⟩, ?_⟩
  · rw [h 0 (by omega) (by omega), h i i0 i1]; exact p3 i i0 i1
  · rw [h i i0 (by omega), h j (by omega) j1]; exact p4 i j i0 ij j1
  · rw [h i i0 (by omega), h (i + 1) (by omega) i1]; exact p5 i i0 i1
  · rw [h 0 (by omega) (by omega), h (k - 1) (by omega) (by omega)]; exact p6
def Ext (c : Int → Int) (n : Int) (e : Int → Int) (k : Int) : Prop := n ≤ k ∧ ∀ i, 0 ≤ i → i < n → e i = c i
def ExtB (c : Int → Int) (n v : Int) (e : Int → Int) (k : Int) : Prop := n < k ∧ (∀ i, 0 ≤ i → i < n → e i = c i) ∧ e n < v
theorem ed_b {h : Int} {A : Int → Int} (Z : ZB h A) {a b : Int} (a0 : 0 ≤ a) (a1 : a < 7) (b0 : 0 ≤ b) (b1 : b < 7) (e : ed A a b) : a < h ∧ b < h ∧ a ≠ b := by
  unfold ed at e
  refine ⟨?_, ?_, ?_⟩
  · by_cases q : h ≤ a
    · have := Z.2.2 a b a0 a1 b0 b1 (Or.inl q); omega
    · omega
  · by_cases q : h ≤ b
    · have := Z.2.2 a b a0 a1 b0 b1 (Or.inr (Or.inl q)); omega
    · omega
  · intro q
    have := Z.2.2 a b a0 a1 b0 b1 (Or.inr (Or.inr q)); omega
/-- one loop of goRing, the recursion given -/
theorem m_go_L {h : Int} (h7 : h ≤ 7) {A : Int → Int} (hA : WA A) (Z : ZB h A) {now : Nat → Int32} (hn : Arr 71 now A) {n : Int} {c : Int → Int} (Pc : Pth A c n) {K : Nat → Int32 → Int32 → (Nat → Int32) → (Nat → Int32) → (Nat → Int32) → Int32 → Option (Int32 × (Nat → Int32) × (Nat → Int32))}
    (HK : ∀ (v : Int) (L : Int) (b : Int → Int) (ring best : Nat → Int32), n < 7 → Pth A (upI c n v) (n + 1) → 2 ≤ L → L ≤ 1000000 → Arr (n + 1) ring (upI c n v) → Arr 7 best b →
      So (K 0 (iI h) (iI L) ring now best (iI (n + 1))) (fun o => ∃ (L' : Int) (b' : Int → Int), 2 ≤ L' ∧ o.1 = iI L' ∧ Arr (n + 1) o.2.1 (upI c n v) ∧ Arr 7 o.2.2 b' ∧ Opt A (Ext (upI c n v) (n + 1)) L b L' b'))
    {L0 : Int} {b0 : Int → Int} (hL0 : L0 ≤ 1000000) (noC : ¬ (2 ≤ n ∧ ed A (c (n - 1)) (c 0))) :
    ∀ (m : Nat) (v : Int) (f : Nat) (L : Int) (b : Int → Int) (ring best : Nat → Int32), c 0 ≤ v → v + m = h → m < f → 2 ≤ L → Arr n ring c → Arr 7 best b → Opt A (ExtB c n v) L0 b0 L b →
    So (fX12_goRing_L16 K (iI h) now (iI n) f (iI v) (iI L) ring best) (fun o => ∃ (L' : Int) (b' : Int → Int) (r1 r2 : Nat → Int32), o = Sum.inl (iI L', r1, r2) ∧ 2 ≤ L' ∧ Arr n r1 c ∧ Arr 7 r2 b' ∧ Opt A (ExtB c n h) L0 b0 L' b')
  | 0, v, f + 1, L, b, ring, best, v0, hv, hf, l2, hr, hb, O => by
    have p2 := Pc.2.1
    rw [fX12_goRing_L16]
    simp (disch := omega) only [gd_t, so_some, so_bind, so_gd, so_none, Option.bind_some, iI_add, iI_sub, iI_mul, iI_neg, iI_clamp, iI_nat, vin_i, iI_le, iI_lt, iI_eq, mn_i, mx_i, if_true, if_false, if_pos, if_neg, li_0, li_1, li_2, li_3, li_4, li_5, li_6, li_7, li_8, li_9, li_10, li_11, li_12, li_14, li_15, li_16, li_20, li_21, li_24, li_28, li_30, li_31, li_40, li_41, li_42, li_43, li_44, li_45, li_47, li_48, li_49, li_57, li_59, li_60, li_61, li_62, li_63, li_70, li_71, li_76, li_80, li_96, li_97, li_98, li_99, li_100, li_101, li_102, li_103, li_104, li_105, li_106, li_107, li_108, li_109, li_110, li_111, li_112, li_113, li_114, li_115, li_116, li_117, li_118, li_119, li_120, li_128, li_142, li_255, li_320, li_781, li_852, li_999, li_1000, li_2000, li_3000, li_9999, li_12345, li_65536, li_1000000, li_252645135, li_858993459, li_1103515245, li_1431655765]
    have : v = h := by omega
    subst this
    exact ⟨L, b, ring, best, rfl, l2, hr, hb, O⟩
  | m + 1, v, f + 1, L, b, ring, best, v0, hv, hf, l2, hr, hb, O => by
    obtain ⟨p1, p2, p3, p4, p5⟩ := Pc
    have c1 := p3 (n - 1) (by omega) (by omega)
    have lO := O.le
    have a := hA.2.1 (21 + (c (n - 1) * 7 + v)) (by omega) (by omega)
    have ix : 21 + 7 * c (n - 1) + v = 21 + (c (n - 1) * 7 + v) := by omega
    have ih := m_go_L h7 hA Z hn ⟨p1, p2, p3, p4, p5⟩ HK (b0 := b0) hL0 noC m (v + 1) f
    have skip : (∀ e k, Cyc A e k → ExtB c n (v + 1) e k → e n ≠ v) → Opt A (ExtB c n (v + 1)) L0 b0 L b := by
      intro hs
      refine ⟨?_, fun e k he hx => ?_⟩
      · rcases O.1 with q | ⟨q1, q2, q3⟩
        · exact Or.inl q
        · exact Or.inr ⟨q1, q2, q3.1, q3.2.1, by have := q3.2.2; omega⟩
      · exact O.2 e k he ⟨hx.1, hx.2.1, by have := hx.2.2; have := hs e k he hx; omega⟩
    rw [fX12_goRing_L16]
    by_cases q : A (21 + (c (n - 1) * 7 + v)) = 0
    · simp (disch := omega) only [gd_t, so_some, so_bind, so_gd, so_none, Option.bind_some, iI_add, iI_sub, iI_mul, iI_neg, iI_clamp, iI_nat, vin_i, iI_le, iI_lt, iI_eq, mn_i, mx_i, if_true, if_false, if_pos, if_neg, li_0, li_1, li_2, li_3, li_4, li_5, li_6, li_7, li_8, li_9, li_10, li_11, li_12, li_14, li_15, li_16, li_20, li_21, li_24, li_28, li_30, li_31, li_40, li_41, li_42, li_43, li_44, li_45, li_47, li_48, li_49, li_57, li_59, li_60, li_61, li_62, li_63, li_70, li_71, li_76, li_80, li_96, li_97, li_98, li_99, li_100, li_101, li_102, li_103, li_104, li_105, li_106, li_107, li_108, li_109, li_110, li_111, li_112, li_113, li_114, li_115, li_116, li_117, li_118, li_119, li_120, li_128, li_142, li_255, li_320, li_781, li_852, li_999, li_1000, li_2000, li_3000, li_9999, li_12345, li_65536, li_1000000, li_252645135, li_858993459, li_1103515245, li_1431655765, hr.at, ix, hn.at]
      refine ih L b ring best (by omega) (by omega) (by omega) l2 hr hb (skip (fun e k he hx w => ?_))
      have := he.2.1.2.2.2.2 (n - 1) (by omega) (by have := hx.1; omega)
      rw [show n - 1 + 1 = n by omega, w, hx.2.1 (n - 1) (by omega) (by omega)] at this
      unfold ed at this
      omega
    · have hE : ed A (c (n - 1)) v := by unfold ed; omega
      by_cases q0 : v = c 0
      · have n2 : ¬ 2 ≤ n := fun w => noC ⟨w, by rw [← q0]; exact hE⟩
        simp (disch := omega) only [gd_t, so_some, so_bind, so_gd, so_none, Option.bind_some, iI_add, iI_sub, iI_mul, iI_neg, iI_clamp, iI_nat, vin_i, iI_le, iI_lt, iI_eq, mn_i, mx_i, if_true, if_false, if_pos, if_neg, li_0, li_1, li_2, li_3, li_4, li_5, li_6, li_7, li_8, li_9, li_10, li_11, li_12, li_14, li_15, li_16, li_20, li_21, li_24, li_28, li_30, li_31, li_40, li_41, li_42, li_43, li_44, li_45, li_47, li_48, li_49, li_57, li_59, li_60, li_61, li_62, li_63, li_70, li_71, li_76, li_80, li_96, li_97, li_98, li_99, li_100, li_101, li_102, li_103, li_104, li_105, li_106, li_107, li_108, li_109, li_110, li_111, li_112, li_113, li_114, li_115, li_116, li_117, li_118, li_119, li_120, li_128, li_142, li_255, li_320, li_781, li_852, li_999, li_1000, li_2000, li_3000, li_9999, li_12345, li_65536, li_1000000, li_252645135, li_858993459, li_1103515245, li_1431655765, hr.at, ix, hn.at]
        refine ih L b ring best (by omega) (by omega) (by omega) l2 hr hb (skip (fun e k he hx w => ?_))
        have := he.2.1.2.2.2.1 0 n (by omega) (by omega) hx.1
        rw [w, hx.2.1 0 (by omega) (by omega), q0] at this
        exact this rfl
      · rcases m_L105 (n := n) (v := v) p1.2 (by omega) (by omega) hr (fun i i0 i1 => by have := p3 i i0 i1; omega) n.toNat 0 FU (by omega) (by omega) (show _ < 4000 by omega) with ⟨w1, i, w2, w3, w4⟩ | ⟨w1, w2⟩
        · simp (disch := omega) only [gd_t, so_some, so_bind, so_gd, so_none, Option.bind_some, iI_add, iI_sub, iI_mul, iI_neg, iI_clamp, iI_nat, vin_i, iI_le, iI_lt, iI_eq, mn_i, mx_i, if_true, if_false, if_pos, if_neg, li_0, li_1, li_2, li_3, li_4, li_5, li_6, li_7, li_8, li_9, li_10, li_11, li_12, li_14, li_15, li_16, li_20, li_21, li_24, li_28, li_30, li_31, li_40, li_41, li_42, li_43, li_44, li_45, li_47, li_48, li_49, li_57, li_59, li_60, li_61, li_62, li_63, li_70, li_71, li_76, li_80, li_96, li_97, li_98, li_99, li_100, li_101, li_102, li_103, li_104, li_105, li_106, li_107, li_108, li_109, li_110, li_111, li_112, li_113, li_114, li_115, li_116, li_117, li_118, li_119, li_120, li_128, li_142, li_255, li_320, li_781, li_852, li_999, li_1000, li_2000, li_3000, li_9999, li_12345, li_65536, li_1000000, li_252645135, li_858993459, li_1103515245, li_1431655765, hr.at, ix, hn.at, w1]
          refine ih L b ring best (by omega) (by omega) (by omega) l2 hr hb (skip (fun e k he hx w => ?_))
          have := he.2.1.2.2.2.1 i n w2 w3 hx.1
          rw [w, hx.2.1 i w2 w3, w4] at this
          exact this rfl
        · by_cases q7 : n = 7
          · simp (disch := omega) only [gd_t, so_some, so_bind, so_gd, so_none, Option.bind_some, iI_add, iI_sub, iI_mul, iI_neg, iI_clamp, iI_nat, vin_i, iI_le, iI_lt, iI_eq, mn_i, mx_i, if_true, if_false, if_pos, if_neg, li_0, li_1, li_2, li_3, li_4, li_5, li_6, li_7, li_8, li_9, li_10, li_11, li_12, li_14, li_15, li_16, li_20, li_21, li_24, li_28, li_30, li_31, li_40, li_41, li_42, li_43, li_44, li_45, li_47, li_48, li_49, li_57, li_59, li_60, li_61, li_62, li_63, li_70, li_71, li_76, li_80, li_96, li_97, li_98, li_99, li_100, li_101, li_102, li_103, li_104, li_105, li_106, li_107, li_108, li_109, li_110, li_111, li_112, li_113, li_114, li_115, li_116, li_117, li_118, li_119, li_120, li_128, li_142, li_255, li_320, li_781, li_852, li_999, li_1000, li_2000, li_3000, li_9999, li_12345, li_65536, li_1000000, li_252645135, li_858993459, li_1103515245, li_1431655765, hr.at, ix, hn.at, w1]
            refine ih L b ring best (by omega) (by omega) (by omega) l2 hr hb (skip (fun e k he hx w => ?_))
            have := he.2.1.1
            have := hx.1
            omega
          · have P2 : Pth A (upI c n v) (n + 1) := Pth.up ⟨p1, p2, p3, p4, p5⟩ (by omega) v0 (by omega) w2 hE
            have r2 : Arr (n + 1) (upd ring n.toNat (iI v)) (upI c n v) := fun x x0 x1 => by
              by_cases w : x = n
              · rw [w, upI_s, upd, if_pos rfl]
              · rw [upI_o _ w, upd, if_neg (by omega)]
                exact hr.at x0 (by omega)
            simp (disch := omega) only [gd_t, so_some, so_bind, so_gd, so_none, Option.bind_some, iI_add, iI_sub, iI_mul, iI_neg, iI_clamp, iI_nat, vin_i, iI_le, iI_lt, iI_eq, mn_i, mx_i, if_true, if_false, if_pos, if_neg, li_0, li_1, li_2, li_3, li_4, li_5, li_6, li_7, li_8, li_9, li_10, li_11, li_12, li_14, li_15, li_16, li_20, li_21, li_24, li_28, li_30, li_31, li_40, li_41, li_42, li_43, li_44, li_45, li_47, li_48, li_49, li_57, li_59, li_60, li_61, li_62, li_63, li_70, li_71, li_76, li_80, li_96, li_97, li_98, li_99, li_100, li_101, li_102, li_103, li_104, li_105, li_106, li_107, li_108, li_109, li_110, li_111, li_112, li_113, li_114, li_115, li_116, li_117, li_118, li_119, li_120, li_128, li_142, li_255, li_320, li_781, li_852, li_999, li_1000, li_2000, li_3000, li_9999, li_12345, li_65536, li_1000000, li_252645135, li_858993459, li_1103515245, li_1431655765, hr.at, ix, hn.at, w1]
            refine so_mono (HK v L b _ best (by omega) P2 l2 (by omega) r2 hb) ?_
            rintro o ⟨L', b', k1, k2, k3, k4, k5⟩
            rw [k2]
            refine ih L' b' _ _ (by omega) (by omega) (by omega) k1 (fun x x0 x1 => by rw [k3.at x0 (by omega), upI_o _ (by omega)]) k4 (O.comb k5 (fun e e' k he hp he' hq => ?_) (fun e k he hx => ?_) (fun e k hp => ⟨hp.1, hp.2.1, by have := hp.2.2; omega⟩) (fun e k hq => ?_))
            · have e0 : e' n = v := by rw [hq.2 n (by omega) (by omega), upI_s]
              intro i i0 i1 hj
              by_cases z : i < n
              · rw [hp.2.1 i i0 z, hq.2 i i0 (by omega), upI_o _ (by omega)]; omega
              · by_cases z2 : i = n
                · rw [z2, e0]; have := hp.2.2; omega
                · have := hj n (by omega) (by omega)
                  have := hp.2.2
                  omega
            · by_cases z : e n = v
              · refine Or.inr ⟨by have := hx.1; omega, fun i i0 i1 => ?_⟩
                by_cases z2 : i = n
                · rw [z2, upI_s]; exact z
                · rw [upI_o _ z2]; exact hx.2.1 i i0 (by omega)
              · exact Or.inl ⟨hx.1, hx.2.1, by have := hx.2.2; omega⟩
            · refine ⟨by have := hq.1; omega, fun i i0 i1 => ?_, ?_⟩
              · rw [hq.2 i i0 (by omega), upI_o _ (by omega)]
              · rw [hq.2 n (by omega) (by omega), upI_s]; omega
theorem m_go {h : Int} (h0 : 0 ≤ h) (h7 : h ≤ 7) {A : Int → Int} (hA : WA A) (Z : ZB h A) {now : Nat → Int32} (hn : Arr 71 now A) : ∀ (t : Nat) (n : Int) (c : Int → Int) (L : Int) (b : Int → Int) (ring best : Nat → Int32), 8 - n ≤ t → Pth A c n → c 0 < h → 2 ≤ L → L ≤ 1000000 → Arr n ring c → Arr 7 best b →
    So (fgor t 0 (iI h) (iI L) ring now best (iI n)) (fun o => ∃ (L' : Int) (b' : Int → Int), 2 ≤ L' ∧ o.1 = iI L' ∧ Arr n o.2.1 c ∧ Arr 7 o.2.2 b' ∧ Opt A (Ext c n) L b L' b')
  | 0, n, c, L, b, ring, best, ht, P, hc0, l2, l1, hr, hb => by have := P.1; omega
  | t + 1, n, c, L, b, ring, best, ht, P, hc0, l2, l1, hr, hb => by
    have p1 := P.1
    have p2 := P.2.1
    have p3 := P.2.2.1
    rw [fgor]
    simp only [if_true]
    unfold fX12_goRing_B
    by_cases q : n < L
    · have r0 := hr.at (x := 0) (by omega) (by omega)
      have r0 : ring 0 = iI (c 0) := r0
      have cc := p3 (n - 1) (by omega) (by omega)
      by_cases qC : 2 ≤ n ∧ ed A (c (n - 1)) (c 0)
      · have a := hA.2.1 (21 + (c (n - 1) * 7 + c 0)) (by omega) (by omega)
        have aE : 0 < A (21 + (c (n - 1) * 7 + c 0)) := qC.2
        have ix : 21 + 7 * c (n - 1) + c 0 = 21 + (c (n - 1) * 7 + c 0) := by omega
        rw [show FU = 3999 + 1 from rfl, fX12_goRing_L16]
        simp (disch := omega) only [gd_t, so_some, so_bind, so_gd, so_none, Option.bind_some, iI_add, iI_sub, iI_mul, iI_neg, iI_clamp, iI_nat, vin_i, iI_le, iI_lt, iI_eq, mn_i, mx_i, if_true, if_false, if_pos, if_neg, li_0, li_1, li_2, li_3, li_4, li_5, li_6, li_7, li_8, li_9, li_10, li_11, li_12, li_14, li_15, li_16, li_20, li_21, li_24, li_28, li_30, li_31, li_40, li_41, li_42, li_43, li_44, li_45, li_47, li_48, li_49, li_57, li_59, li_60, li_61, li_62, li_63, li_70, li_71, li_76, li_80, li_96, li_97, li_98, li_99, li_100, li_101, li_102, li_103, li_104, li_105, li_106, li_107, li_108, li_109, li_110, li_111, li_112, li_113, li_114, li_115, li_116, li_117, li_118, li_119, li_120, li_128, li_142, li_255, li_320, li_781, li_852, li_999, li_1000, li_2000, li_3000, li_9999, li_12345, li_65536, li_1000000, li_252645135, li_858993459, li_1103515245, li_1431655765, hr.at, ix, hn.at, Int.toNat_zero, r0]
        refine so_mono (m_L76 p1.2 hr n.toNat 0 4000 best b (by omega) (by omega) (by omega) hb) ?_
        intro o ho
        simp only [Sum.elim_inr, so_some]
        have hcy : Cyc A (fun i => if 0 ≤ i ∧ i < n then c i else b i) n := Cyc.congr (c := c) ⟨qC.1, P, qC.2⟩ (fun i i0 i1 => if_pos ⟨i0, i1⟩)
        refine ⟨n, _, qC.1, rfl, hr, ho, Or.inr ⟨q, hcy, Int.le_refl n, fun i i0 i1 => if_pos ⟨i0, i1⟩⟩, fun e k he hx => ⟨hx.1, fun _ w i i0 i1 _ => ?_⟩⟩
        show (if 0 ≤ i ∧ i < n then c i else b i) ≤ e i
        rw [if_pos (by omega), hx.2 i i0 (by omega)]
        omega
      · simp (disch := omega) only [gd_t, so_some, so_bind, so_gd, so_none, Option.bind_some, iI_add, iI_sub, iI_mul, iI_neg, iI_clamp, iI_nat, vin_i, iI_le, iI_lt, iI_eq, mn_i, mx_i, if_true, if_false, if_pos, if_neg, li_0, li_1, li_2, li_3, li_4, li_5, li_6, li_7, li_8, li_9, li_10, li_11, li_12, li_14, li_15, li_16, li_20, li_21, li_24, li_28, li_30, li_31, li_40, li_41, li_42, li_43, li_44, li_45, li_47, li_48, li_49, li_57, li_59, li_60, li_61, li_62, li_63, li_70, li_71, li_76, li_80, li_96, li_97, li_98, li_99, li_100, li_101, li_102, li_103, li_104, li_105, li_106, li_107, li_108, li_109, li_110, li_111, li_112, li_113, li_114, li_115, li_116, li_117, li_118, li_119, li_120, li_128, li_142, li_255, li_320, li_781, li_852, li_999, li_1000, li_2000, li_3000, li_9999, li_12345, li_65536, li_1000000, li_252645135, li_858993459, li_1103515245, li_1431655765, Int.toNat_zero, r0]
        refine so_mono (m_go_L h7 hA Z hn P (K := fgor t) (fun v L b ring best n7 P2 l2 l1 hr hb => m_go h0 h7 hA Z hn t (n + 1) (upI c n v) L b ring best (by omega) P2 (by rw [upI_o _ (by omega)]; exact hc0) l2 l1 hr hb) (L0 := L) (b0 := b) l1 qC (h - c 0).toNat (c 0) FU L b ring best (by omega) (by omega) (show _ < 4000 by omega) l2 hr hb ⟨Or.inl ⟨rfl, rfl⟩, fun e k he hx => ?_⟩) ?_
        · exfalso
          have e0 := hx.2.1 0 (by omega) (by omega)
          have := he.2.1.2.2.1 n (by omega) hx.1
          have := hx.2.2
          omega
        · rintro o ⟨L', b', r1, r2, rfl, k1, k2, k3, k4⟩
          simp only [Sum.elim_inl, so_some]
          refine ⟨L', b', k1, rfl, k2, k3, ?_, fun e k he hx => ?_⟩
          · rcases k4.1 with w | ⟨w1, w2, w3⟩
            · exact Or.inl w
            · exact Or.inr ⟨w1, w2, by have := w3.1; omega, w3.2.1⟩
          · by_cases z : k = n
            · exfalso
              subst z
              refine qC ⟨he.1, ?_⟩
              have := he.2.2
              rw [hx.2 0 (by omega) (by omega), hx.2 (k - 1) (by omega) (by omega)] at this
              exact this
            · have bn := he.2.1.2.2.1 n (by omega) (by have := hx.1; omega)
              have bp := he.2.1.2.2.1 (n - 1) (by omega) (by have := hx.1; omega)
              have e0 := hx.2 0 (by omega) (by omega)
              have ee := he.2.1.2.2.2.2 (n - 1) (by omega) (by have := hx.1; omega)
              rw [show n - 1 + 1 = n by omega] at ee
              have := ed_b Z (by omega) (by omega) (by omega) (by omega) ee
              exact k4.2 e k he ⟨by have := hx.1; omega, hx.2, this.2.1⟩
    · simp (disch := omega) only [gd_t, so_some, so_bind, so_gd, so_none, Option.bind_some, iI_add, iI_sub, iI_mul, iI_neg, iI_clamp, iI_nat, vin_i, iI_le, iI_lt, iI_eq, mn_i, mx_i, if_true, if_false, if_pos, if_neg, li_0, li_1, li_2, li_3, li_4, li_5, li_6, li_7, li_8, li_9, li_10, li_11, li_12, li_14, li_15, li_16, li_20, li_21, li_24, li_28, li_30, li_31, li_40, li_41, li_42, li_43, li_44, li_45, li_47, li_48, li_49, li_57, li_59, li_60, li_61, li_62, li_63, li_70, li_71, li_76, li_80, li_96, li_97, li_98, li_99, li_100, li_101, li_102, li_103, li_104, li_105, li_106, li_107, li_108, li_109, li_110, li_111, li_112, li_113, li_114, li_115, li_116, li_117, li_118, li_119, li_120, li_128, li_142, li_255, li_320, li_781, li_852, li_999, li_1000, li_2000, li_3000, li_9999, li_12345, li_65536, li_1000000, li_252645135, li_858993459, li_1103515245, li_1431655765]
      exact ⟨L, b, l2, rfl, hr, hb, Or.inl ⟨rfl, rfl⟩, fun e k he hx => ⟨by have := hx.1; omega, fun w => by omega⟩⟩
