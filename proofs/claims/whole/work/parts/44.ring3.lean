/-! the class's ring: found -/
theorem pig : ∀ (N : Nat) (n : Int) (f : Int → Int), 0 ≤ n → (∀ i, 0 ≤ i → i < n → 0 ≤ f i ∧ f i < N) → (∀ i j, 0 ≤ i → i < j → j < n → f i ≠ f j) → n ≤ N
  | 0, n, f, n0, hf, hd => by
    by_cases q : 0 < n
    · have := hf 0 (by omega) q; omega
    · omega
  | N + 1, n, f, n0, hf, hd => by
    by_cases q : ∃ i, 0 ≤ i ∧ i < n ∧ f i = N
    · obtain ⟨i, i0, i1, e⟩ := q
      have := pig N (n - 1) (fun j => if j < i then f j else f (j + 1)) (by omega) (fun j j0 j1 => by
        split
        · have := hf j j0 (by omega)
          have := hd j i j0 (by omega) i1
          omega
        · have := hf (j + 1) (by omega) (by omega)
          have := hd i (j + 1) i0 (by omega) (by omega)
          omega) (fun j k j0 jk k1 => by
        by_cases w : j < i
        · rw [if_pos w]
          by_cases w2 : k < i
          · rw [if_pos w2]; exact hd j k j0 jk (by omega)
          · rw [if_neg w2]; exact hd j (k + 1) j0 (by omega) (by omega)
        · rw [if_neg w, if_neg (by omega)]
          exact hd (j + 1) (k + 1) (by omega) (by omega) (by omega))
      omega
    · have := pig N n f n0 (fun i i0 i1 => by
        have := hf i i0 i1
        have : f i ≠ N := fun w => q ⟨i, i0, i1, w⟩
        omega) hd
      omega
def Wl (A : Int → Int) (s : Int) : Nat → Int → Prop
  | 0, v => v = s
  | j + 1, v => (s < v ∧ v < 7) ∧ ∃ to, (s ≤ to ∧ to < 7) ∧ ed A v to ∧ Wl A s j to
def nrF (A st : Int → Int) (a : Int) : Nat → Int → Int → Int
  | 0, _, v => v
  | m + 1, k, v => nrF A st a m (k + 1) (if A (21 + (a * 7 + k)) ≤ 0 then v else min v (st k))
theorem nrF_b {A st : Int → Int} {a : Int} (hs : ∀ i, 0 ≤ i → i < 7 → 0 ≤ st i ∧ st i ≤ 99) : ∀ (m : Nat) (k v : Int), 0 ≤ k → k + m = 7 → 0 ≤ v → v ≤ 99 → (0 ≤ nrF A st a m k v ∧ nrF A st a m k v ≤ v) ∧ (∀ t, k ≤ t → t < 7 → ed A a t → nrF A st a m k v ≤ st t) ∧ (nrF A st a m k v = v ∨ ∃ t, k ≤ t ∧ t < 7 ∧ ed A a t ∧ nrF A st a m k v = st t)
  | 0, k, v, k0, hk, v0, v1 => ⟨⟨v0, Int.le_refl v⟩, fun t t0 t1 => by omega, Or.inl rfl⟩
  | m + 1, k, v, k0, hk, v0, v1 => by
    have x := hs k k0 (by omega)
    rw [nrF]
    by_cases q : A (21 + (a * 7 + k)) ≤ 0
    · rw [if_pos q]
      obtain ⟨y1, y2, y3⟩ := nrF_b (A := A) (a := a) hs m (k + 1) v (by omega) (by omega) v0 v1
      refine ⟨y1, fun t t0 t1 e => ?_, ?_⟩
      · by_cases w : t = k
        · rw [w] at e; unfold ed at e; omega
        · exact y2 t (by omega) t1 e
      · rcases y3 with w | ⟨t, t0, t1, e, w⟩
        · exact Or.inl w
        · exact Or.inr ⟨t, by omega, t1, e, w⟩
    · rw [if_neg q]
      obtain ⟨y1, y2, y3⟩ := nrF_b (A := A) (a := a) hs m (k + 1) (min v (st k)) (by omega) (by omega) (by omega) (by omega)
      refine ⟨by omega, fun t t0 t1 e => ?_, ?_⟩
      · by_cases w : t = k
        · rw [w]; omega
        · exact y2 t (by omega) t1 e
      · rcases y3 with w | ⟨t, t0, t1, e, w⟩
        · by_cases z : v ≤ st k
          · left; omega
          · exact Or.inr ⟨k, by omega, by omega, by unfold ed; omega, by omega⟩
        · exact Or.inr ⟨t, by omega, t1, e, w⟩
theorem c_near_L {A st : Int → Int} (hA : WA A) {a : Int} (a0 : 0 ≤ a) (a1 : a < 7) {steps debt : Nat → Int32} (hs : ∀ i, 0 ≤ i → i < 7 → 0 ≤ st i ∧ st i ≤ 99) (h1 : Arr 7 steps st) (hd : Arr 49 debt (fun i => A (21 + i))) : ∀ (m : Nat) (k v : Int) (f : Nat), 0 ≤ k → k + m = 7 → m < f → 0 ≤ v → v ≤ 99 →
    fX3_nearest_L7 steps debt (iI a) f (iI v) (iI k) = some (iI (nrF A st a m k v))
  | 0, k, v, f + 1, k0, hk, hf, v0, v1 => by
    rw [fX3_nearest_L7]
    simp (disch := omega) only [gd_t, so_some, so_bind, so_gd, so_none, Option.bind_some, iI_add, iI_sub, iI_mul, iI_neg, iI_clamp, iI_nat, vin_i, iI_le, iI_lt, iI_eq, mn_i, mx_i, if_true, if_false, if_pos, if_neg, li_0, li_1, li_2, li_3, li_4, li_5, li_6, li_7, li_8, li_9, li_10, li_11, li_12, li_14, li_15, li_16, li_20, li_21, li_24, li_28, li_30, li_31, li_40, li_41, li_42, li_43, li_44, li_45, li_47, li_48, li_49, li_57, li_59, li_60, li_61, li_62, li_63, li_70, li_71, li_76, li_80, li_96, li_97, li_98, li_99, li_100, li_101, li_102, li_103, li_104, li_105, li_106, li_107, li_108, li_109, li_110, li_111, li_112, li_113, li_114, li_115, li_116, li_117, li_118, li_119, li_120, li_128, li_142, li_255, li_320, li_781, li_852, li_999, li_1000, li_2000, li_3000, li_9999, li_12345, li_65536, li_1000000, li_252645135, li_858993459, li_1103515245, li_1431655765]
    rfl
  | m + 1, k, v, f + 1, k0, hk, hf, v0, v1 => by
    have x := hs k k0 (by omega)
    have y := hA.2.1 (21 + (a * 7 + k)) (by omega) (by omega)
    rw [fX3_nearest_L7, nrF]
    by_cases q : A (21 + (a * 7 + k)) ≤ 0
    · simp (disch := omega) only [gd_t, so_some, so_bind, so_gd, so_none, Option.bind_some, iI_add, iI_sub, iI_mul, iI_neg, iI_clamp, iI_nat, vin_i, iI_le, iI_lt, iI_eq, mn_i, mx_i, if_true, if_false, if_pos, if_neg, li_0, li_1, li_2, li_3, li_4, li_5, li_6, li_7, li_8, li_9, li_10, li_11, li_12, li_14, li_15, li_16, li_20, li_21, li_24, li_28, li_30, li_31, li_40, li_41, li_42, li_43, li_44, li_45, li_47, li_48, li_49, li_57, li_59, li_60, li_61, li_62, li_63, li_70, li_71, li_76, li_80, li_96, li_97, li_98, li_99, li_100, li_101, li_102, li_103, li_104, li_105, li_106, li_107, li_108, li_109, li_110, li_111, li_112, li_113, li_114, li_115, li_116, li_117, li_118, li_119, li_120, li_128, li_142, li_255, li_320, li_781, li_852, li_999, li_1000, li_2000, li_3000, li_9999, li_12345, li_65536, li_1000000, li_252645135, li_858993459, li_1103515245, li_1431655765, hd.at]
      exact c_near_L hA a0 a1 hs h1 hd m (k + 1) v f (by omega) (by omega) (by omega) v0 v1
    · simp (disch := omega) only [gd_t, so_some, so_bind, so_gd, so_none, Option.bind_some, iI_add, iI_sub, iI_mul, iI_neg, iI_clamp, iI_nat, vin_i, iI_le, iI_lt, iI_eq, mn_i, mx_i, if_true, if_false, if_pos, if_neg, li_0, li_1, li_2, li_3, li_4, li_5, li_6, li_7, li_8, li_9, li_10, li_11, li_12, li_14, li_15, li_16, li_20, li_21, li_24, li_28, li_30, li_31, li_40, li_41, li_42, li_43, li_44, li_45, li_47, li_48, li_49, li_57, li_59, li_60, li_61, li_62, li_63, li_70, li_71, li_76, li_80, li_96, li_97, li_98, li_99, li_100, li_101, li_102, li_103, li_104, li_105, li_106, li_107, li_108, li_109, li_110, li_111, li_112, li_113, li_114, li_115, li_116, li_117, li_118, li_119, li_120, li_128, li_142, li_255, li_320, li_781, li_852, li_999, li_1000, li_2000, li_3000, li_9999, li_12345, li_65536, li_1000000, li_252645135, li_858993459, li_1103515245, li_1431655765, hd.at, h1.at]
      exact c_near_L hA a0 a1 hs h1 hd m (k + 1) (min v (st k)) f (by omega) (by omega) (by omega) (by omega) (by omega)
def Ms (A : Int → Int) (s : Int) (st : Int → Int) : Prop :=
  st s = 0 ∧ (∀ v, 0 ≤ v → v < 7 → 0 ≤ st v ∧ st v ≤ 99) ∧ (∀ v, s < v → v < 7 → 1 ≤ st v) ∧ ∀ v, s < v → v < 7 → st v < 99 → ∃ to, (s ≤ to ∧ to < 7) ∧ ed A v to ∧ st to + 1 ≤ st v
def Mw (A : Int → Int) (s : Int) (r : Nat) (st : Int → Int) : Prop := ∀ j : Nat, j ≤ r → ∀ v, Wl A s j v → st v ≤ j
theorem c_meas_L {A : Int → Int} (hA : WA A) {s : Int} (s0 : 0 ≤ s) (s1 : s < 7) {debt : Nat → Int32} (hd : Arr 49 debt (fun i => A (21 + i))) {r : Nat} {st0 : Int → Int} (W0 : Mw A s r st0) : ∀ (m : Nat) (x : Int) (f : Nat) (steps : Nat → Int32) (st : Int → Int), s + 1 ≤ x → x + m = 7 → m < f → Arr 7 steps st → Ms A s st → (∀ v, st v ≤ st0 v) → (∀ v, s < v → v < x → ∀ j : Nat, j ≤ r → Wl A s (j + 1) v → st v ≤ j + 1) →
    So (fX3_measure_L29 debt (iI s) f (iI x) steps) (fun o => ∃ st', Arr 7 o st' ∧ Ms A s st' ∧ Mw A s (r + 1) st')
  | 0, x, f + 1, steps, st, x0, hx, hf, h1, M, le, B => by
    rw [fX3_measure_L29]
    simp (disch := omega) only [gd_t, so_some, so_bind, so_gd, so_none, Option.bind_some, iI_add, iI_sub, iI_mul, iI_neg, iI_clamp, iI_nat, vin_i, iI_le, iI_lt, iI_eq, mn_i, mx_i, if_true, if_false, if_pos, if_neg, li_0, li_1, li_2, li_3, li_4, li_5, li_6, li_7, li_8, li_9, li_10, li_11, li_12, li_14, li_15, li_16, li_20, li_21, li_24, li_28, li_30, li_31, li_40, li_41, li_42, li_43, li_44, li_45, li_47, li_48, li_49, li_57, li_59, li_60, li_61, li_62, li_63, li_70, li_71, li_76, li_80, li_96, li_97, li_98, li_99, li_100, li_101, li_102, li_103, li_104, li_105, li_106, li_107, li_108, li_109, li_110, li_111, li_112, li_113, li_114, li_115, li_116, li_117, li_118, li_119, li_120, li_128, li_142, li_255, li_320, li_781, li_852, li_999, li_1000, li_2000, li_3000, li_9999, li_12345, li_65536, li_1000000, li_252645135, li_858993459, li_1103515245, li_1431655765]
    refine ⟨st, h1, M, fun j hj v w => ?_⟩
    cases j with
    | zero => rw [show v = s from w, M.1]; omega
    | succ j =>
      have := B v w.1.1 (by have := w.1.2; omega) j (by omega) w
      omega
  | m + 1, x, f + 1, steps, st, x0, hx, hf, h1, M, le, B => by
    obtain ⟨y1, y2, y3⟩ := nrF_b (A := A) (a := x) M.2.1 (7 - s).toNat s 99 (by omega) (by omega) (by omega) (by omega)
    have nr := c_near_L hA (a := x) (by omega) (by omega) M.2.1 h1 hd (7 - s).toNat s 99 FU (by omega) (by omega) (show _ < 4000 by omega) (by omega) (by omega)
    have nr2 : fX3_nearest steps debt (iI x) (iI s) = some (iI (nrF A st x (7 - s).toNat s 99)) := by
      unfold fX3_nearest
      rw [li_99, nr]
      rfl
    obtain ⟨N, hN⟩ : ∃ N, nrF A st x (7 - s).toNat s 99 = N := ⟨_, rfl⟩
    rw [hN] at nr2 y1 y2 y3
    have sx := M.2.1 x (by omega) (by omega)
    have sx1 := M.2.2.1 x (by omega) (by omega)
    rw [fX3_measure_L29]
    simp (disch := omega) only [gd_t, so_some, so_bind, so_gd, so_none, Option.bind_some, iI_add, iI_sub, iI_mul, iI_neg, iI_clamp, iI_nat, vin_i, iI_le, iI_lt, iI_eq, mn_i, mx_i, if_true, if_false, if_pos, if_neg, li_0, li_1, li_2, li_3, li_4, li_5, li_6, li_7, li_8, li_9, li_10, li_11, li_12, li_14, li_15, li_16, li_20, li_21, li_24, li_28, li_30, li_31, li_40, li_41, li_42, li_43, li_44, li_45, li_47, li_48, li_49, li_57, li_59, li_60, li_61, li_62, li_63, li_70, li_71, li_76, li_80, li_96, li_97, li_98, li_99, li_100, li_101, li_102, li_103, li_104, li_105, li_106, li_107, li_108, li_109, li_110, li_111, li_112, li_113, li_114, li_115, li_116, li_117, li_118, li_119, li_120, li_128, li_142, li_255, li_320, li_781, li_852, li_999, li_1000, li_2000, li_3000, li_9999, li_12345, li_65536, li_1000000, li_252645135, li_858993459, li_1103515245, li_1431655765, h1.at, nr2]
    have dec : ∀ v, upI st x (min (st x) (1 + N)) v ≤ st v := fun v => by
      by_cases q : v = x
      · rw [q, upI_s]; omega
      · rw [upI_o _ q]; omega
    have ed0 : ∀ t, s ≤ t → t < 7 → ed A x t → min (st x) (1 + N) ≤ 1 + st t := fun t t0 t1 e => by have := y2 t t0 t1 e; omega
    refine c_meas_L hA s0 s1 hd W0 m (x + 1) f _ _ (by omega) (by omega) (by omega) (h1.up (min (st x) (1 + N)) (by omega)) ⟨?_, fun v v0 v1 => ?_, fun v v0 v1 => ?_, fun v v0 v1 hv => ?_⟩ (fun v => Int.le_trans (dec v) (le v)) (fun v v0 v1 j hj w => ?_)
    · rw [upI_o _ (by omega)]; exact M.1
    · by_cases q : v = x
      · rw [q, upI_s]; omega
      · rw [upI_o _ q]; exact M.2.1 v v0 v1
    · by_cases q : v = x
      · rw [q, upI_s]; omega
      · rw [upI_o _ q]; exact M.2.2.1 v v0 v1
    · have old : upI st x (min (st x) (1 + N)) v = st v → ∃ to, (s ≤ to ∧ to < 7) ∧ ed A v to ∧ upI st x (min (st x) (1 + N)) to + 1 ≤ upI st x (min (st x) (1 + N)) v := by
        intro z
        rw [z] at hv
        obtain ⟨to, t1, t2, t3⟩ := M.2.2.2 v v0 v1 hv
        exact ⟨to, t1, t2, by have := dec to; omega⟩
      by_cases q : v = x
      · by_cases q2 : st x ≤ 1 + N
        · exact old (by rw [q, upI_s]; omega)
        · rcases y3 with w | ⟨t, t0, t1, e, w⟩
          · omega
          · refine ⟨t, ⟨t0, t1⟩, by rw [q]; exact e, ?_⟩
            have := dec t
            rw [q, upI_s]
            omega
      · exact old (upI_o _ q)
    · by_cases q : v = x
      · obtain ⟨-, to, t1, t2, t3⟩ := w
        have h5 := W0 j hj to t3
        have h6 := le to
        rw [q] at t2
        have h7 := ed0 to t1.1 t1.2 t2
        rw [q, upI_s]
        omega
      · rw [upI_o _ q]
        exact B v v0 (by omega) j hj w
theorem c_meas_R {A : Int → Int} (hA : WA A) {s : Int} (s0 : 0 ≤ s) (s1 : s < 7) {debt : Nat → Int32} (hd : Arr 49 debt (fun i => A (21 + i))) : ∀ (m : Nat) (r : Nat) (f : Nat) (steps : Nat → Int32) (st : Int → Int), r + m = 6 → m < f → Arr 7 steps st → Ms A s st → Mw A s r st →
    So (fX3_measure_L18 debt (iI s) f (iI (r + 1)) steps) (fun o => ∃ st', Arr 7 o st' ∧ Ms A s st' ∧ Mw A s 6 st')
  | 0, r, f + 1, steps, st, hr, hf, h1, M, W => by
    rw [fX3_measure_L18]
    simp (disch := omega) only [gd_t, so_some, so_bind, so_gd, so_none, Option.bind_some, iI_add, iI_sub, iI_mul, iI_neg, iI_clamp, iI_nat, vin_i, iI_le, iI_lt, iI_eq, mn_i, mx_i, if_true, if_false, if_pos, if_neg, li_0, li_1, li_2, li_3, li_4, li_5, li_6, li_7, li_8, li_9, li_10, li_11, li_12, li_14, li_15, li_16, li_20, li_21, li_24, li_28, li_30, li_31, li_40, li_41, li_42, li_43, li_44, li_45, li_47, li_48, li_49, li_57, li_59, li_60, li_61, li_62, li_63, li_70, li_71, li_76, li_80, li_96, li_97, li_98, li_99, li_100, li_101, li_102, li_103, li_104, li_105, li_106, li_107, li_108, li_109, li_110, li_111, li_112, li_113, li_114, li_115, li_116, li_117, li_118, li_119, li_120, li_128, li_142, li_255, li_320, li_781, li_852, li_999, li_1000, li_2000, li_3000, li_9999, li_12345, li_65536, li_1000000, li_252645135, li_858993459, li_1103515245, li_1431655765]
    have : r = 6 := by omega
    subst this
    exact ⟨st, h1, M, W⟩
  | m + 1, r, f + 1, steps, st, hr, hf, h1, M, W => by
    rw [fX3_measure_L18]
    simp (disch := omega) only [gd_t, so_some, so_bind, so_gd, so_none, Option.bind_some, iI_add, iI_sub, iI_mul, iI_neg, iI_clamp, iI_nat, vin_i, iI_le, iI_lt, iI_eq, mn_i, mx_i, if_true, if_false, if_pos, if_neg, li_0, li_1, li_2, li_3, li_4, li_5, li_6, li_7, li_8, li_9, li_10, li_11, li_12, li_14, li_15, li_16, li_20, li_21, li_24, li_28, li_30, li_31, li_40, li_41, li_42, li_43, li_44, li_45, li_47, li_48, li_49, li_57, li_59, li_60, li_61, li_62, li_63, li_70, li_71, li_76, li_80, li_96, li_97, li_98, li_99, li_100, li_101, li_102, li_103, li_104, li_105, li_106, li_107, li_108, li_109, li_110, li_111, li_112, li_113, li_114, li_115, li_116, li_117, li_118, li_119, li_120, li_128, li_142, li_255, li_320, li_781, li_852, li_999, li_1000, li_2000, li_3000, li_9999, li_12345, li_65536, li_1000000, li_252645135, li_858993459, li_1103515245, li_1431655765]
    refine so_mono (c_meas_L hA s0 s1 hd W (6 - s).toNat (s + 1) FU steps st (by omega) (by omega) (show _ < 4000 by omega) h1 M (fun v => Int.le_refl _) (fun v v0 v1 => by omega)) ?_
    rintro o ⟨st', k1, k2, k3⟩
    exact c_meas_R hA s0 s1 hd m (r + 1) f _ st' (by omega) (by omega) k1 k2 k3
theorem c_measure {A : Int → Int} (hA : WA A) {s : Int} (s0 : 0 ≤ s) (s1 : s < 7) {debt : Nat → Int32} (hd : Arr 49 debt (fun i => A (21 + i))) (steps : Nat → Int32) : So (fX3_measure steps debt (iI s)) (fun o => ∃ st', Arr 7 o st' ∧ Ms A s st' ∧ Mw A s 6 st') := by
  unfold fX3_measure
  simp only [so_bind, li_99, li_0, li_1]
  refine so_mono (t_fill (n := 7) (by omega) 99 steps) ?_
  intro o ho
  have u := ho.up (k := s) 0 s0
  simp (disch := omega) only [gd_t, so_some, so_bind, so_gd, so_none, Option.bind_some, iI_add, iI_sub, iI_mul, iI_neg, iI_clamp, iI_nat, vin_i, iI_le, iI_lt, iI_eq, mn_i, mx_i, if_true, if_false, if_pos, if_neg, li_0, li_1, li_2, li_3, li_4, li_5, li_6, li_7, li_8, li_9, li_10, li_11, li_12, li_14, li_15, li_16, li_20, li_21, li_24, li_28, li_30, li_31, li_40, li_41, li_42, li_43, li_44, li_45, li_47, li_48, li_49, li_57, li_59, li_60, li_61, li_62, li_63, li_70, li_71, li_76, li_80, li_96, li_97, li_98, li_99, li_100, li_101, li_102, li_103, li_104, li_105, li_106, li_107, li_108, li_109, li_110, li_111, li_112, li_113, li_114, li_115, li_116, li_117, li_118, li_119, li_120, li_128, li_142, li_255, li_320, li_781, li_852, li_999, li_1000, li_2000, li_3000, li_9999, li_12345, li_65536, li_1000000, li_252645135, li_858993459, li_1103515245, li_1431655765]
  refine c_meas_R hA s0 s1 hd 6 0 FU _ _ (by omega) (show _ < 4000 by omega) u ⟨upI_s _ _ _, fun v v0 v1 => ?_, fun v v0 v1 => ?_, fun v v0 v1 hv => ?_⟩ (fun j hj v w => ?_)
  · by_cases q : v = s
    · rw [q, upI_s]; omega
    · rw [upI_o _ q]; omega
  · rw [upI_o _ (by omega)]; omega
  · rw [upI_o _ (by omega)] at hv; omega
  · have : j = 0 := by omega
    subst this
    rw [show v = s from w, upI_s]
    omega
def lnF (A st : Int → Int) (a : Int) : Nat → Int → Int → Int
  | 0, _, v => v
  | m + 1, k, v => lnF A st a m (k + 1) (if A (21 + (a * 7 + k)) ≤ 0 then v else min v (1 + st k))
theorem lnF_b {A st : Int → Int} {a : Int} (hs : ∀ i, 0 ≤ i → i < 7 → 0 ≤ st i ∧ st i ≤ 99) : ∀ (m : Nat) (k v : Int), 0 ≤ k → k + m = 7 → 0 ≤ v → v ≤ 99 → (0 ≤ lnF A st a m k v ∧ lnF A st a m k v ≤ v) ∧ (∀ t, k ≤ t → t < 7 → ed A a t → lnF A st a m k v ≤ 1 + st t) ∧ (lnF A st a m k v = v ∨ ∃ t, k ≤ t ∧ t < 7 ∧ ed A a t ∧ lnF A st a m k v = 1 + st t)
  | 0, k, v, k0, hk, v0, v1 => ⟨⟨v0, Int.le_refl v⟩, fun t t0 t1 => by omega, Or.inl rfl⟩
  | m + 1, k, v, k0, hk, v0, v1 => by
    have x := hs k k0 (by omega)
    rw [lnF]
    by_cases q : A (21 + (a * 7 + k)) ≤ 0
    · rw [if_pos q]
      obtain ⟨y1, y2, y3⟩ := lnF_b (A := A) (a := a) hs m (k + 1) v (by omega) (by omega) v0 v1
      refine ⟨y1, fun t t0 t1 e => ?_, ?_⟩
      · by_cases w : t = k
        · rw [w] at e; unfold ed at e; omega
        · exact y2 t (by omega) t1 e
      · rcases y3 with w | ⟨t, t0, t1, e, w⟩
        · exact Or.inl w
        · exact Or.inr ⟨t, by omega, t1, e, w⟩
    · rw [if_neg q]
      obtain ⟨y1, y2, y3⟩ := lnF_b (A := A) (a := a) hs m (k + 1) (min v (1 + st k)) (by omega) (by omega) (by omega) (by omega)
      refine ⟨by omega, fun t t0 t1 e => ?_, ?_⟩
      · by_cases w : t = k
        · rw [w]; omega
        · exact y2 t (by omega) t1 e
      · rcases y3 with w | ⟨t, t0, t1, e, w⟩
        · by_cases z : v ≤ 1 + st k
          · left; omega
          · exact Or.inr ⟨k, by omega, by omega, by unfold ed; omega, by omega⟩
        · exact Or.inr ⟨t, by omega, t1, e, w⟩
theorem c_len_L {A st : Int → Int} (hA : WA A) {a : Int} (a0 : 0 ≤ a) (a1 : a < 7) {steps debt : Nat → Int32} (hs : ∀ i, 0 ≤ i → i < 7 → 0 ≤ st i ∧ st i ≤ 99) (h1 : Arr 7 steps st) (hd : Arr 49 debt (fun i => A (21 + i))) : ∀ (m : Nat) (k v : Int) (f : Nat), 0 ≤ k → k + m = 7 → m < f → 0 ≤ v → v ≤ 99 →
    fX3_lengthFrom_L8 steps debt (iI a) f (iI v) (iI k) = some (iI (lnF A st a m k v))
  | 0, k, v, f + 1, k0, hk, hf, v0, v1 => by
    rw [fX3_lengthFrom_L8]
    simp (disch := omega) only [gd_t, so_some, so_bind, so_gd, so_none, Option.bind_some, iI_add, iI_sub, iI_mul, iI_neg, iI_clamp, iI_nat, vin_i, iI_le, iI_lt, iI_eq, mn_i, mx_i, if_true, if_false, if_pos, if_neg, li_0, li_1, li_2, li_3, li_4, li_5, li_6, li_7, li_8, li_9, li_10, li_11, li_12, li_14, li_15, li_16, li_20, li_21, li_24, li_28, li_30, li_31, li_40, li_41, li_42, li_43, li_44, li_45, li_47, li_48, li_49, li_57, li_59, li_60, li_61, li_62, li_63, li_70, li_71, li_76, li_80, li_96, li_97, li_98, li_99, li_100, li_101, li_102, li_103, li_104, li_105, li_106, li_107, li_108, li_109, li_110, li_111, li_112, li_113, li_114, li_115, li_116, li_117, li_118, li_119, li_120, li_128, li_142, li_255, li_320, li_781, li_852, li_999, li_1000, li_2000, li_3000, li_9999, li_12345, li_65536, li_1000000, li_252645135, li_858993459, li_1103515245, li_1431655765]
    rfl
  | m + 1, k, v, f + 1, k0, hk, hf, v0, v1 => by
    have x := hs k k0 (by omega)
    have y := hA.2.1 (21 + (a * 7 + k)) (by omega) (by omega)
    rw [fX3_lengthFrom_L8, lnF]
    by_cases q : A (21 + (a * 7 + k)) ≤ 0
    · simp (disch := omega) only [gd_t, so_some, so_bind, so_gd, so_none, Option.bind_some, iI_add, iI_sub, iI_mul, iI_neg, iI_clamp, iI_nat, vin_i, iI_le, iI_lt, iI_eq, mn_i, mx_i, if_true, if_false, if_pos, if_neg, li_0, li_1, li_2, li_3, li_4, li_5, li_6, li_7, li_8, li_9, li_10, li_11, li_12, li_14, li_15, li_16, li_20, li_21, li_24, li_28, li_30, li_31, li_40, li_41, li_42, li_43, li_44, li_45, li_47, li_48, li_49, li_57, li_59, li_60, li_61, li_62, li_63, li_70, li_71, li_76, li_80, li_96, li_97, li_98, li_99, li_100, li_101, li_102, li_103, li_104, li_105, li_106, li_107, li_108, li_109, li_110, li_111, li_112, li_113, li_114, li_115, li_116, li_117, li_118, li_119, li_120, li_128, li_142, li_255, li_320, li_781, li_852, li_999, li_1000, li_2000, li_3000, li_9999, li_12345, li_65536, li_1000000, li_252645135, li_858993459, li_1103515245, li_1431655765, hd.at]
      exact c_len_L hA a0 a1 hs h1 hd m (k + 1) v f (by omega) (by omega) (by omega) v0 v1
    · simp (disch := omega) only [gd_t, so_some, so_bind, so_gd, so_none, Option.bind_some, iI_add, iI_sub, iI_mul, iI_neg, iI_clamp, iI_nat, vin_i, iI_le, iI_lt, iI_eq, mn_i, mx_i, if_true, if_false, if_pos, if_neg, li_0, li_1, li_2, li_3, li_4, li_5, li_6, li_7, li_8, li_9, li_10, li_11, li_12, li_14, li_15, li_16, li_20, li_21, li_24, li_28, li_30, li_31, li_40, li_41, li_42, li_43, li_44, li_45, li_47, li_48, li_49, li_57, li_59, li_60, li_61, li_62, li_63, li_70, li_71, li_76, li_80, li_96, li_97, li_98, li_99, li_100, li_101, li_102, li_103, li_104, li_105, li_106, li_107, li_108, li_109, li_110, li_111, li_112, li_113, li_114, li_115, li_116, li_117, li_118, li_119, li_120, li_128, li_142, li_255, li_320, li_781, li_852, li_999, li_1000, li_2000, li_3000, li_9999, li_12345, li_65536, li_1000000, li_252645135, li_858993459, li_1103515245, li_1431655765, hd.at, h1.at]
      exact c_len_L hA a0 a1 hs h1 hd m (k + 1) (min v (1 + st k)) f (by omega) (by omega) (by omega) (by omega) (by omega)
/-- a way back to s, by ever fewer steps -/
def Chn (A : Int → Int) (s : Int) (st : Int → Int) (v l : Int) (c : Int → Int) : Prop :=
  0 ≤ l ∧ l ≤ st v ∧ c 0 = v ∧ c l = s ∧ (∀ i, 0 ≤ i → i < l → (s < c i ∧ c i < 7) ∧ ed A (c i) (c (i + 1)) ∧ st (c i) ≤ st v) ∧ ∀ i j, 0 ≤ i → i < j → j < l → st (c j) < st (c i)
theorem chn {A : Int → Int} {s : Int} {st : Int → Int} (M : Ms A s st) : ∀ (N : Nat) (v : Int), s ≤ v → v < 7 → st v < 99 → st v ≤ N → ∃ l c, Chn A s st v l c
  | N, v, v0, v1, hv, hN => by
    by_cases q : v = s
    · subst q
      exact ⟨0, fun _ => v, Int.le_refl 0, by rw [M.1]; omega, rfl, rfl, fun i _ _ => by omega, fun i j _ _ _ => by omega⟩
    · obtain ⟨to, t1, t2, t3⟩ := M.2.2.2 v (by omega) v1 hv
      have vp := M.2.2.1 v (by omega) v1
      cases N with
      | zero => omega
      | succ N =>
        obtain ⟨l, c, k1, k2, k3, k4, k5, k6⟩ := chn M N to t1.1 t1.2 (by omega) (by omega)
        refine ⟨l + 1, fun i => if i = 0 then v else c (i - 1), by omega, by omega, if_pos rfl, ?_, fun i i0 i1 => ?_, fun i j i0 ij j1 => ?_⟩
        · dsimp only
          rw [if_neg (by omega), show l + 1 - 1 = l by omega]; exact k4
        · dsimp only
          by_cases w : i = 0
          · rw [if_pos w, if_neg (by omega), show i + 1 - 1 = 0 by omega, k3]
            exact ⟨by omega, t2, Int.le_refl _⟩
          · rw [if_neg w, if_neg (by omega)]
            have z := k5 (i - 1) (by omega) (by omega)
            rw [show i - 1 + 1 = i + 1 - 1 by omega] at z
            exact ⟨z.1, z.2.1, by have := z.2.2; omega⟩
        · dsimp only
          rw [if_neg (show ¬ j = 0 by omega)]
          by_cases w : i = 0
          · rw [if_pos w]
            have z := k5 (j - 1) (by omega) (by omega)
            have := z.2.2
            omega
          · rw [if_neg w]
            exact k6 (i - 1) (j - 1) (by omega) (by omega) (by omega)
/-- a row of debts, and a way back: a ring -/
theorem mk_cyc {h : Int} {A : Int → Int} (Z : ZB h A) {s : Int} (s0 : 0 ≤ s) (s1 : s < 7) {st : Int → Int} (M : Ms A s st) {m : Int → Int} {i : Int} (P : Pth A m i) (m0 : m 0 = s) {to : Int} (hst : ∀ k, 1 ≤ k → k < i → st to < st (m k)) (t0 : s ≤ to) (t1 : to < 7) (he : ed A (m (i - 1)) to) (ht : st to < 99) :
    ∃ l e, 0 ≤ l ∧ l ≤ st to ∧ Cyc A e (i + l) ∧ e 0 = s := by
  obtain ⟨p1, p2, p3, p4, p5⟩ := P
  obtain ⟨l, c, k1, k2, k3, k4, k5, k6⟩ := chn M (st to).toNat to t0 t1 ht (by omega)
  have il : 2 ≤ i + l := by
    by_cases w : i = 1 ∧ l = 0
    · exfalso
      have e1 : to = s := by rw [← k3, ← k4, w.2]
      rw [w.1, show (1 : Int) - 1 = 0 from rfl, m0, e1] at he
      exact (ed_b Z s0 s1 s0 s1 he).2.2 rfl
    · omega
  have f1 : ∀ k, 0 ≤ k → k < i → (fun k => if k < i then m k else c (k - i)) k = m k := fun k _ h => if_pos h
  have f2 : ∀ k, i ≤ k → (fun k => if k < i then m k else c (k - i)) k = c (k - i) := fun k h => if_neg (by omega)
  have f0 : (fun k => if k < i then m k else c (k - i)) 0 = s := (f1 0 (by omega) (by omega)).trans m0
  obtain ⟨e, hE⟩ : ∃ e : Int → Int, e = (fun k => if k < i then m k else c (k - i)) := ⟨_, rfl⟩
  rw [← hE] at f1 f2 f0
  have bnd : ∀ k, 0 ≤ k → k < i + l → s ≤ e k ∧ e k < 7 := fun k k0 k1 => by
    by_cases w : k < i
    · rw [f1 k k0 w]; have := p3 k k0 w; omega
    · rw [f2 k (by omega)]; have := (k5 (k - i) (by omega) (by omega)).1; omega
  have dst : ∀ a b, 0 ≤ a → a < b → b < i + l → e a ≠ e b := fun a b a0 ab b1 => by
    by_cases w : b < i
    · rw [f1 a a0 (by omega), f1 b (by omega) w]; exact p4 a b a0 ab w
    · rw [f2 b (by omega)]
      have zb := k5 (b - i) (by omega) (by omega)
      by_cases w2 : a < i
      · rw [f1 a a0 w2]
        intro q
        by_cases w3 : a = 0
        · rw [w3, m0] at q; have := zb.1; omega
        · have := hst a (by omega) w2
          rw [q] at this
          have := zb.2.2
          omega
      · rw [f2 a (by omega)]
        intro q
        have := k6 (a - i) (b - i) (by omega) (by omega) (by omega)
        rw [q] at this
        omega
  have edg : ∀ a, 0 ≤ a → a + 1 < i + l → ed A (e a) (e (a + 1)) := fun a a0 a1 => by
    by_cases w : a + 1 < i
    · rw [f1 a a0 (by omega), f1 (a + 1) (by omega) w]; exact p5 a a0 w
    · rw [f2 (a + 1) (by omega)]
      by_cases w2 : a < i
      · rw [f1 a a0 w2, show a + 1 - i = 0 by omega, k3, show a = i - 1 by omega]; exact he
      · rw [f2 a (by omega)]
        have z := (k5 (a - i) (by omega) (by omega)).2.1
        rw [show a - i + 1 = a + 1 - i by omega] at z
        exact z
  have sev := pig 7 (i + l) e (by omega) (fun k k0 k1 => by have := bnd k k0 k1; omega) dst
  refine ⟨l, e, k1, k2, ⟨il, ⟨⟨by omega, by omega⟩, by rw [f0]; exact s0, fun k k0 k1 => by rw [f0]; exact bnd k k0 k1, dst, edg⟩, ?_⟩, f0⟩
  rw [f0]
  by_cases w : l = 0
  · rw [f1 (i + l - 1) (by omega) (by omega), show i + l - 1 = i - 1 by omega]
    have : to = s := by rw [← k3, ← k4, w]
    rw [this] at he
    exact he
  · rw [f2 (i + l - 1) (by omega)]
    have z := (k5 (i + l - 1 - i) (by omega) (by omega)).2.1
    rw [show i + l - 1 - i + 1 = l by omega, k4] at z
    exact z
/-- a ring's own ways back -/
theorem cyc_wl {A : Int → Int} {e : Int → Int} {k : Int} (C : Cyc A e k) : ∀ (d : Nat) (i : Int), 1 ≤ i → i + (d + 1) = k → Wl A (e 0) (d + 1) (e i)
  | 0, i, i1, hi => by
    have b := C.2.1.2.2.1 i (by omega) (by omega)
    have n := C.2.1.2.2.2.1 0 i (by omega) (by omega) (by omega)
    have c := C.2.2
    rw [show k - 1 = i by omega] at c
    exact ⟨by omega, e 0, by omega, c, rfl⟩
  | d + 1, i, i1, hi => by
    have b := C.2.1.2.2.1 i (by omega) (by omega)
    have b2 := C.2.1.2.2.1 (i + 1) (by omega) (by omega)
    have n := C.2.1.2.2.2.1 0 i (by omega) (by omega) (by omega)
    exact ⟨by omega, e (i + 1), by omega, C.2.1.2.2.2.2 i (by omega) (by omega), cyc_wl C d (i + 1) (by omega) (by omega)⟩
theorem cyc_st {A : Int → Int} {s : Int} {st : Int → Int} (W : Mw A s 6 st) {e : Int → Int} {k : Int} (C : Cyc A e k) (e0 : e 0 = s) {i : Int} (i1 : 1 ≤ i) (ik : i < k) : st (e i) ≤ k - i := by
  have k7 := C.2.1.1
  have w := cyc_wl C (k - i - 1).toNat i i1 (by omega)
  rw [e0] at w
  have := W ((k - i - 1).toNat + 1) (by omega) (e i) w
  omega
