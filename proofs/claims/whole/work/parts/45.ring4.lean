theorem c_next_L {A st : Int → Int} (hA : WA A) {a left : Int} (a0 : 0 ≤ a) (a1 : a < 7) (l0 : 0 ≤ left) (l1 : left ≤ 99) {steps debt : Nat → Int32} (hs : ∀ i, 0 ≤ i → i < 7 → 0 ≤ st i ∧ st i ≤ 99) (h1 : Arr 7 steps st) (hd : Arr 49 debt (fun i => A (21 + i))) : ∀ (m : Nat) (k : Int) (f : Nat), 0 ≤ k → k + m = 7 → m < f → (∃ to, k ≤ to ∧ to < 7 ∧ ed A a to ∧ st to = left) →
    ∃ t, k ≤ t ∧ t < 7 ∧ ed A a t ∧ st t = left ∧ (∀ to, k ≤ to → to < 7 → ed A a to → st to = left → t ≤ to) ∧ fX3_nextOf_L3 steps debt (iI a) (iI left) f (iI k) = some (Sum.inr (iI t))
  | 0, k, f + 1, k0, hk, hf, H => by
    obtain ⟨to, h1, h2, _⟩ := H
    omega
  | m + 1, k, f + 1, k0, hk, hf, H => by
    have x := hs k k0 (by omega)
    have y := hA.2.1 (21 + (a * 7 + k)) (by omega) (by omega)
    have nxt : (¬ (ed A a k ∧ st k = left)) → ∃ t, k ≤ t ∧ t < 7 ∧ ed A a t ∧ st t = left ∧ (∀ to, k ≤ to → to < 7 → ed A a to → st to = left → t ≤ to) ∧ fX3_nextOf_L3 steps debt (iI a) (iI left) f (iI (k + 1)) = some (Sum.inr (iI t)) := by
      intro hn
      obtain ⟨to, g1, g2, g3, g4⟩ := H
      have q : to ≠ k := fun w => hn ⟨by rw [← w]; exact g3, by rw [← w]; exact g4⟩
      obtain ⟨t, t1, t2, t3, t4, t5, t6⟩ := c_next_L hA a0 a1 l0 l1 hs h1 hd m (k + 1) f (by omega) (by omega) (by omega) ⟨to, by omega, g2, g3, g4⟩
      refine ⟨t, by omega, t2, t3, t4, fun u u1 u2 u3 u4 => ?_, t6⟩
      have : u ≠ k := fun w => hn ⟨by rw [← w]; exact u3, by rw [← w]; exact u4⟩
      exact t5 u (by omega) u2 u3 u4
    rw [fX3_nextOf_L3]
    by_cases q : A (21 + (a * 7 + k)) ≤ 0
    · simp (disch := omega) only [gd_t, so_some, so_bind, so_gd, so_none, Option.bind_some, iI_add, iI_sub, iI_mul, iI_neg, iI_clamp, iI_nat, vin_i, iI_le, iI_lt, iI_eq, mn_i, mx_i, if_true, if_false, if_pos, if_neg, li_0, li_1, li_2, li_3, li_4, li_5, li_6, li_7, li_8, li_9, li_10, li_11, li_12, li_14, li_15, li_16, li_20, li_21, li_24, li_28, li_30, li_31, li_40, li_41, li_42, li_43, li_44, li_45, li_47, li_48, li_49, li_57, li_59, li_60, li_61, li_62, li_63, li_70, li_71, li_76, li_80, li_96, li_97, li_98, li_99, li_100, li_101, li_102, li_103, li_104, li_105, li_106, li_107, li_108, li_109, li_110, li_111, li_112, li_113, li_114, li_115, li_116, li_117, li_118, li_119, li_120, li_128, li_142, li_255, li_320, li_781, li_852, li_999, li_1000, li_2000, li_3000, li_9999, li_12345, li_65536, li_1000000, li_252645135, li_858993459, li_1103515245, li_1431655765, hd.at]
      exact nxt (fun w => by have := w.1; unfold ed at this; omega)
    · by_cases q2 : st k = left
      · simp (disch := omega) only [gd_t, so_some, so_bind, so_gd, so_none, Option.bind_some, iI_add, iI_sub, iI_mul, iI_neg, iI_clamp, iI_nat, vin_i, iI_le, iI_lt, iI_eq, mn_i, mx_i, if_true, if_false, if_pos, if_neg, li_0, li_1, li_2, li_3, li_4, li_5, li_6, li_7, li_8, li_9, li_10, li_11, li_12, li_14, li_15, li_16, li_20, li_21, li_24, li_28, li_30, li_31, li_40, li_41, li_42, li_43, li_44, li_45, li_47, li_48, li_49, li_57, li_59, li_60, li_61, li_62, li_63, li_70, li_71, li_76, li_80, li_96, li_97, li_98, li_99, li_100, li_101, li_102, li_103, li_104, li_105, li_106, li_107, li_108, li_109, li_110, li_111, li_112, li_113, li_114, li_115, li_116, li_117, li_118, li_119, li_120, li_128, li_142, li_255, li_320, li_781, li_852, li_999, li_1000, li_2000, li_3000, li_9999, li_12345, li_65536, li_1000000, li_252645135, li_858993459, li_1103515245, li_1431655765, hd.at, h1.at]
        exact ⟨k, by omega, by omega, by unfold ed; omega, q2, fun u u1 _ _ _ => u1, rfl⟩
      · simp (disch := omega) only [gd_t, so_some, so_bind, so_gd, so_none, Option.bind_some, iI_add, iI_sub, iI_mul, iI_neg, iI_clamp, iI_nat, vin_i, iI_le, iI_lt, iI_eq, mn_i, mx_i, if_true, if_false, if_pos, if_neg, li_0, li_1, li_2, li_3, li_4, li_5, li_6, li_7, li_8, li_9, li_10, li_11, li_12, li_14, li_15, li_16, li_20, li_21, li_24, li_28, li_30, li_31, li_40, li_41, li_42, li_43, li_44, li_45, li_47, li_48, li_49, li_57, li_59, li_60, li_61, li_62, li_63, li_70, li_71, li_76, li_80, li_96, li_97, li_98, li_99, li_100, li_101, li_102, li_103, li_104, li_105, li_106, li_107, li_108, li_109, li_110, li_111, li_112, li_113, li_114, li_115, li_116, li_117, li_118, li_119, li_120, li_128, li_142, li_255, li_320, li_781, li_852, li_999, li_1000, li_2000, li_3000, li_9999, li_12345, li_65536, li_1000000, li_252645135, li_858993459, li_1103515245, li_1431655765, hd.at, h1.at]
        exact nxt (fun w => q2 w.2)
theorem c_next {A st : Int → Int} (hA : WA A) {a left s : Int} (a0 : 0 ≤ a) (a1 : a < 7) (s0 : 0 ≤ s) (s1 : s < 7) (l0 : 0 ≤ left) (l1 : left ≤ 99) {steps debt : Nat → Int32} (hs : ∀ i, 0 ≤ i → i < 7 → 0 ≤ st i ∧ st i ≤ 99) (h1 : Arr 7 steps st) (hd : Arr 49 debt (fun i => A (21 + i))) (H : ∃ to, s ≤ to ∧ to < 7 ∧ ed A a to ∧ st to = left) :
    ∃ t, s ≤ t ∧ t < 7 ∧ ed A a t ∧ st t = left ∧ (∀ to, s ≤ to → to < 7 → ed A a to → st to = left → t ≤ to) ∧ fX3_nextOf steps debt (iI a) (iI s) (iI left) = some (iI t) := by
  obtain ⟨t, t1, t2, t3, t4, t5, t6⟩ := c_next_L hA a0 a1 l0 l1 hs h1 hd (7 - s).toNat s FU s0 (by omega) (show _ < 4000 by omega) H
  refine ⟨t, t1, t2, t3, t4, t5, ?_⟩
  unfold fX3_nextOf
  rw [t6]
  rfl
/-- what is known of a start -/
def StT (A : Int → Int) (s T : Int) (st : Int → Int) : Prop :=
  Ms A s st ∧ Mw A s 6 st ∧ (∀ t, s < t → t < 7 → ed A s t → T ≤ 1 + st t) ∧ ∃ t, s < t ∧ t < 7 ∧ ed A s t ∧ T = 1 + st t
theorem StT.min {A : Int → Int} {s T : Int} {st : Int → Int} (Q : StT A s T st) {e : Int → Int} {k : Int} (C : Cyc A e k) (e0 : e 0 = s) : T ≤ k := by
  have k2 := C.1
  have x := cyc_st Q.2.1 C e0 (i := 1) (by omega) (by omega)
  have b := C.2.1.2.2.1 1 (by omega) (by omega)
  have n := C.2.1.2.2.2.1 0 1 (by omega) (by omega) (by omega)
  have ee := C.2.1.2.2.2.2 0 (by omega) (by omega)
  rw [e0] at ee
  have := Q.2.2.1 (e 1) (by omega) (by omega) ee
  omega
theorem StT.b {h : Int} {A : Int → Int} (Z : ZB h A) {s T : Int} (s0 : 0 ≤ s) (s1 : s < 7) {st : Int → Int} (Q : StT A s T st) (hT : T < 99) : 2 ≤ T ∧ T ≤ 7 := by
  obtain ⟨t, t1, t2, t3, t4⟩ := Q.2.2.2
  have P : Pth A (fun _ => s) 1 := pth_1 s0 (by omega)
  obtain ⟨l, e, k1, k2, k3, k4⟩ := mk_cyc Z s0 s1 Q.1 P rfl (to := t) (fun k _ _ => by omega) (by omega) t2 t3 (by omega)
  have m := Q.min k3 k4
  have := k3.1
  have := k3.2.1.1
  omega
theorem lsF_congr {A b b' : Int → Int} {k : Int} (h : ∀ i, 0 ≤ i → i < k → b' i = b i) : ∀ (m : Nat) (i v : Int), 0 ≤ i → i + m = k → lsF A b' k m i v = lsF A b k m i v
  | 0, _, _, _, _ => rfl
  | m + 1, i, v, i0, hi => by
    have e : rce b' k i = rce b k i := by
      unfold rce nxt
      rw [h i i0 (by omega)]
      by_cases q : i + 1 = k
      · rw [if_pos q, if_pos q, h 0 (by omega) (by omega)]
      · rw [if_neg q, if_neg q, h (i + 1) (by omega) (by omega)]
    rw [lsF, lsF, e, lsF_congr h m (i + 1) _ (by omega) (by omega)]
theorem c_lay_L {h : Int} {A : Int → Int} (hA : WA A) (Z : ZB h A) {s T : Int} (s0 : 0 ≤ s) (s1 : s < 7) {st : Int → Int} (Q : StT A s T st) (hT : T < 99) {steps debt : Nat → Int32} (h1 : Arr 7 steps st) (hd : Arr 49 debt (fun i => A (21 + i))) :
    ∀ (c : Nat) (i : Int) (f : Nat) (v : Int) (m : Int → Int) (members : Nat → Int32), 1 ≤ i → i + c = T → c + 1 < f → 0 ≤ v → v ≤ 9999 → Arr i members m → Pth A m i → m 0 = s → (∀ k, 1 ≤ k → k < i → st (m k) = T - k) → (∀ e, Cyc A e T → e 0 = s → Lx m e i) →
    So (fX3_lay_L19 (iI T) steps debt (iI s) f (iI (m (i - 1))) (iI i) (iI v) members) (fun o => ∃ b, Cyc A b T ∧ b 0 = s ∧ (∀ k, 0 ≤ k → k < i → b k = m k) ∧ (∀ e, Cyc A e T → e 0 = s → Lx b e T) ∧ o.1 = iI (lsF A b T (c + 1) (i - 1) v) ∧ Arr T o.2 b)
  | c, i, 0, v, m, members, i1, hi, hf, v0, v1, hm, P, m0, hst, hx => by omega
  | c, i, f + 1, v, m, members, i1, hi, hf, v0, v1, hm, P, m0, hst, hx => by
    have tb := Q.b Z s0 s1 hT
    have pb := P.2.2.1 (i - 1) (by omega) (by omega)
    have pp := P.2.1
    have mm := Q.1
    have cand : ∀ to, s ≤ to → to < 7 → ed A (m (i - 1)) to → st to ≤ T - i → st to = T - i := fun to t0 t1 te tl => by
      obtain ⟨l, e, k1, k2, k3, k4⟩ := mk_cyc Z s0 s1 mm P m0 (to := to) (fun k k1 k2 => by rw [hst k k1 k2]; omega) t0 t1 te (by omega)
      have := Q.min k3 k4
      omega
    have ex : ∃ to, s ≤ to ∧ to < 7 ∧ ed A (m (i - 1)) to ∧ st to = T - i := by
      by_cases q : i = 1
      · obtain ⟨t, t1, t2, t3, t4⟩ := Q.2.2.2
        refine ⟨t, by omega, t2, ?_, by omega⟩
        rw [q, show (1 : Int) - 1 = 0 from rfl, m0]
        exact t3
      · have e1 := hst (i - 1) (by omega) (by omega)
        have ne := P.2.2.2.1 0 (i - 1) (by omega) (by omega) (by omega)
        obtain ⟨to, t1, t2, t3⟩ := mm.2.2.2 (m (i - 1)) (by omega) (by omega) (by omega)
        exact ⟨to, t1.1, t1.2, t2, cand to t1.1 t1.2 t2 (by omega)⟩
    obtain ⟨t, t1, t2, t3, t4, t5, t6⟩ := c_next hA (a := m (i - 1)) (left := T - i) (s := s) (by omega) (by omega) s0 s1 (by omega) (by omega) mm.2.1 h1 hd ex
    have ax := hA.2.1 (21 + (m (i - 1) * 7 + t)) (by omega) (by omega)
    rw [fX3_lay_L19]
    cases c with
    | zero =>
      have ti : T = i := by omega
      have ts : t = s := by
        by_cases w : t = s
        · exact w
        · have := mm.2.2.1 t (by omega) t2
          omega
      obtain ⟨f, rfl⟩ : ∃ f', f = f' + 1 := ⟨f - 1, by omega⟩
      simp (disch := omega) only [gd_t, so_some, so_bind, so_gd, so_none, Option.bind_some, iI_add, iI_sub, iI_mul, iI_neg, iI_clamp, iI_nat, vin_i, iI_le, iI_lt, iI_eq, mn_i, mx_i, if_true, if_false, if_pos, if_neg, li_0, li_1, li_2, li_3, li_4, li_5, li_6, li_7, li_8, li_9, li_10, li_11, li_12, li_14, li_15, li_16, li_20, li_21, li_24, li_28, li_30, li_31, li_40, li_41, li_42, li_43, li_44, li_45, li_47, li_48, li_49, li_57, li_59, li_60, li_61, li_62, li_63, li_70, li_71, li_76, li_80, li_96, li_97, li_98, li_99, li_100, li_101, li_102, li_103, li_104, li_105, li_106, li_107, li_108, li_109, li_110, li_111, li_112, li_113, li_114, li_115, li_116, li_117, li_118, li_119, li_120, li_128, li_142, li_255, li_320, li_781, li_852, li_999, li_1000, li_2000, li_3000, li_9999, li_12345, li_65536, li_1000000, li_252645135, li_858993459, li_1103515245, li_1431655765, t6, hd.at]
      rw [fX3_lay_L19]
      simp (disch := omega) only [gd_t, so_some, so_bind, so_gd, so_none, Option.bind_some, iI_add, iI_sub, iI_mul, iI_neg, iI_clamp, iI_nat, vin_i, iI_le, iI_lt, iI_eq, mn_i, mx_i, if_true, if_false, if_pos, if_neg, li_0, li_1, li_2, li_3, li_4, li_5, li_6, li_7, li_8, li_9, li_10, li_11, li_12, li_14, li_15, li_16, li_20, li_21, li_24, li_28, li_30, li_31, li_40, li_41, li_42, li_43, li_44, li_45, li_47, li_48, li_49, li_57, li_59, li_60, li_61, li_62, li_63, li_70, li_71, li_76, li_80, li_96, li_97, li_98, li_99, li_100, li_101, li_102, li_103, li_104, li_105, li_106, li_107, li_108, li_109, li_110, li_111, li_112, li_113, li_114, li_115, li_116, li_117, li_118, li_119, li_120, li_128, li_142, li_255, li_320, li_781, li_852, li_999, li_1000, li_2000, li_3000, li_9999, li_12345, li_65536, li_1000000, li_252645135, li_858993459, li_1103515245, li_1431655765]
      subst ti
      refine ⟨m, ⟨tb.1, P, by rw [m0, ← ts]; exact t3⟩, m0, fun k _ _ => rfl, hx, ?_, hm⟩
      rw [lsF, lsF]
      congr 2
      unfold rce nxt
      rw [if_pos (by omega), m0, ts]
    | succ c =>
      have tn : t ≠ s := fun w => by rw [w, mm.1] at t4; omega
      have P2 : Pth A (upI m i t) (i + 1) := P.up (by omega) (by omega) t2 (fun k k0 k1 w => by
        by_cases z : k = 0
        · rw [z, m0] at w; omega
        · have := hst k (by omega) k1
          rw [w] at this
          omega) t3
      have hm2 : Arr (i + 1) (upd members i.toNat (iI t)) (upI m i t) := fun x x0 x1 => by
        by_cases w : x = i
        · rw [w, upI_s, upd, if_pos rfl]
        · rw [upI_o _ w, upd, if_neg (by omega)]
          exact hm.at x0 (by omega)
      simp (disch := omega) only [gd_t, so_some, so_bind, so_gd, so_none, Option.bind_some, iI_add, iI_sub, iI_mul, iI_neg, iI_clamp, iI_nat, vin_i, iI_le, iI_lt, iI_eq, mn_i, mx_i, if_true, if_false, if_pos, if_neg, li_0, li_1, li_2, li_3, li_4, li_5, li_6, li_7, li_8, li_9, li_10, li_11, li_12, li_14, li_15, li_16, li_20, li_21, li_24, li_28, li_30, li_31, li_40, li_41, li_42, li_43, li_44, li_45, li_47, li_48, li_49, li_57, li_59, li_60, li_61, li_62, li_63, li_70, li_71, li_76, li_80, li_96, li_97, li_98, li_99, li_100, li_101, li_102, li_103, li_104, li_105, li_106, li_107, li_108, li_109, li_110, li_111, li_112, li_113, li_114, li_115, li_116, li_117, li_118, li_119, li_120, li_128, li_142, li_255, li_320, li_781, li_852, li_999, li_1000, li_2000, li_3000, li_9999, li_12345, li_65536, li_1000000, li_252645135, li_858993459, li_1103515245, li_1431655765, t6, hd.at]
      have ih := c_lay_L hA Z s0 s1 Q hT h1 hd c (i + 1) f (min v (A (21 + (m (i - 1) * 7 + t)))) (upI m i t) _ (by omega) (by omega) (by omega) (by omega) (by omega) hm2 P2 (by rw [upI_o _ (by omega)]; exact m0) (fun k k0 k1 => by
        by_cases w : k = i
        · rw [w, upI_s]; exact t4
        · rw [upI_o _ w]; exact hst k k0 (by omega)) (fun e he e0 k k0 k1 hj => by
        by_cases w : k = i
        · rw [w, upI_s]
          have eq : ∀ j, 0 ≤ j → j < i → m j = e j := fun j j0 j1 => by
            have := hj j j0 (by omega)
            rw [upI_o _ (by omega)] at this
            exact this
          have ei := he.2.1.2.2.1 i (by omega) (by omega)
          have ne := he.2.1.2.2.2.1 0 i (by omega) (by omega) (by omega)
          have ee := he.2.1.2.2.2.2 (i - 1) (by omega) (by omega)
          rw [show i - 1 + 1 = i by omega, ← eq (i - 1) (by omega) (by omega)] at ee
          have le := cyc_st Q.2.1 he e0 (i := i) i1 (by omega)
          exact t5 (e i) (by omega) (by omega) ee (cand (e i) (by omega) (by omega) ee le)
        · rw [upI_o _ w]
          refine hx e he e0 k k0 (by omega) (fun j j0 j1 => ?_)
          have := hj j j0 j1
          rw [upI_o _ (by omega)] at this
          exact this)
      rw [show i + 1 - 1 = i by omega, upI_s] at ih
      refine so_mono ih ?_
      rintro o ⟨b, b1, b2, b3, b4, b5, b6⟩
      have bi : b i = t := by rw [b3 i (by omega) (by omega), upI_s]
      have bp : b (i - 1) = m (i - 1) := by rw [b3 (i - 1) (by omega) (by omega), upI_o _ (by omega)]
      refine ⟨b, b1, b2, fun k k0 k1 => by rw [b3 k k0 (by omega), upI_o _ (by omega)], b4, ?_, b6⟩
      rw [b5]
      show _ = iI (lsF A b T (c + 1) (i - 1 + 1) (min v (A (rce b T (i - 1)))))
      rw [show i - 1 + 1 = i by omega]
      congr 2
      unfold rce nxt
      rw [if_neg (by omega), show i - 1 + 1 = i by omega, bi, bp]
theorem c_lay {h : Int} {A : Int → Int} (hA : WA A) (Z : ZB h A) {s T : Int} (s0 : 0 ≤ s) (s1 : s < 7) {st : Int → Int} (Q : StT A s T st) (hT : T < 99) {steps debt : Nat → Int32} (h1 : Arr 7 steps st) (hd : Arr 49 debt (fun i => A (21 + i))) (least : Int32) (members : Nat → Int32) :
    So (fX3_lay (iI T) least members steps debt (iI s)) (fun o => ∃ b, Cyc A b T ∧ b 0 = s ∧ (∀ e, Cyc A e T → e 0 = s → Lx b e T) ∧ o.1 = iI (lst A b T) ∧ Arr T o.2 b) := by
  have tb := Q.b Z s0 s1 hT
  have P : Pth A (fun _ => s) 1 := pth_1 s0 (by omega)
  have r : Arr 1 (upd members 0 (iI s)) (fun _ => s) := fun x x0 x1 => by rw [show x = 0 by omega]; exact if_pos rfl
  have K := c_lay_L hA Z s0 s1 Q hT h1 hd (T - 1).toNat 1 FU 9999 (fun _ => s) _ (by omega) (by omega) (show _ < 4000 by omega) (by omega) (by omega) r P rfl (fun k _ _ => by omega) (fun e he e0 k k0 k1 _ => by rw [show k = 0 by omega]; show s ≤ e 0; omega)
  unfold fX3_lay
  simp (disch := omega) only [gd_t, so_some, so_bind, so_gd, so_none, Option.bind_some, iI_add, iI_sub, iI_mul, iI_neg, iI_clamp, iI_nat, vin_i, iI_le, iI_lt, iI_eq, mn_i, mx_i, if_true, if_false, if_pos, if_neg, li_0, li_1, li_2, li_3, li_4, li_5, li_6, li_7, li_8, li_9, li_10, li_11, li_12, li_14, li_15, li_16, li_20, li_21, li_24, li_28, li_30, li_31, li_40, li_41, li_42, li_43, li_44, li_45, li_47, li_48, li_49, li_57, li_59, li_60, li_61, li_62, li_63, li_70, li_71, li_76, li_80, li_96, li_97, li_98, li_99, li_100, li_101, li_102, li_103, li_104, li_105, li_106, li_107, li_108, li_109, li_110, li_111, li_112, li_113, li_114, li_115, li_116, li_117, li_118, li_119, li_120, li_128, li_142, li_255, li_320, li_781, li_852, li_999, li_1000, li_2000, li_3000, li_9999, li_12345, li_65536, li_1000000, li_252645135, li_858993459, li_1103515245, li_1431655765, Int.toNat_zero]
  refine so_mono K ?_
  rintro o ⟨b, b1, b2, b3, b4, b5, b6⟩
  refine ⟨b, b1, b2, b4, ?_, b6⟩
  rw [b5, show (T - 1).toNat + 1 = T.toNat by omega]
  rfl
theorem c_find_L {h : Int} {A : Int → Int} (hA : WA A) (Z : ZB h A) {debt : Nat → Int32} (hd : Arr 49 debt (fun i => A (21 + i))) {b0 : Int → Int} : ∀ (m : Nat) (s : Int) (f : Nat) (L : Int) (b : Int → Int) (least : Int32) (steps members : Nat → Int32), 0 ≤ s → s + m = 7 → m < f → 2 ≤ L → (L < 99 → least = iI (lst A b L) ∧ Arr L members b) → Opt A (fun e _ => e 0 < s) 99 b0 L b →
    So (fX3_find_L8 debt f (iI s) (iI L) least steps members) (fun o => ∃ (L' : Int) (b' : Int → Int), 2 ≤ L' ∧ o.1 = iI L' ∧ (L' < 99 → o.2.1 = iI (lst A b' L') ∧ Arr L' o.2.2.2 b') ∧ Opt A All 99 b0 L' b')
  | 0, s, f + 1, L, b, least, steps, members, s0, hs, hf, l2, hb, O => by
    rw [fX3_find_L8]
    simp (disch := omega) only [gd_t, so_some, so_bind, so_gd, so_none, Option.bind_some, iI_add, iI_sub, iI_mul, iI_neg, iI_clamp, iI_nat, vin_i, iI_le, iI_lt, iI_eq, mn_i, mx_i, if_true, if_false, if_pos, if_neg, li_0, li_1, li_2, li_3, li_4, li_5, li_6, li_7, li_8, li_9, li_10, li_11, li_12, li_14, li_15, li_16, li_20, li_21, li_24, li_28, li_30, li_31, li_40, li_41, li_42, li_43, li_44, li_45, li_47, li_48, li_49, li_57, li_59, li_60, li_61, li_62, li_63, li_70, li_71, li_76, li_80, li_96, li_97, li_98, li_99, li_100, li_101, li_102, li_103, li_104, li_105, li_106, li_107, li_108, li_109, li_110, li_111, li_112, li_113, li_114, li_115, li_116, li_117, li_118, li_119, li_120, li_128, li_142, li_255, li_320, li_781, li_852, li_999, li_1000, li_2000, li_3000, li_9999, li_12345, li_65536, li_1000000, li_252645135, li_858993459, li_1103515245, li_1431655765]
    refine ⟨L, b, l2, rfl, hb, ?_, fun e k he _ => ?_⟩
    · rcases O.1 with w | ⟨w1, w2, _⟩
      · exact Or.inl w
      · exact Or.inr ⟨w1, w2, True.intro⟩
    · refine O.2 e k he ?_
      have b0 := he.2.1.2.2.1 0 (by omega) (by have := he.1; omega)
      show e 0 < s
      omega
  | m + 1, s, f + 1, L, b, least, steps, members, s0, hs, hf, l2, hb, O => by
    have lO := O.le
    have nx : ∀ (L' : Int) (b' : Int → Int), Opt A (fun e _ => e 0 = s) L b L' b' → Opt A (fun e _ => e 0 < s + 1) 99 b0 L' b' := fun L' b' k5 => by
      refine O.comb k5 (fun e e' k he hp he' hq => ?_) (fun e k he hx => ?_) (fun e k hp => by have hp : e 0 < s := hp; show e 0 < s + 1; omega) (fun e k hq => by have hq : e 0 = s := hq; show e 0 < s + 1; omega)
      · have hp : e 0 < s := hp
        have e0 : e' 0 = s := hq
        intro i i0 i1 hj
        by_cases z : i = 0
        · rw [z]; omega
        · have := hj 0 (by omega) (by omega)
          omega
      · have hx : e 0 < s + 1 := hx
        by_cases z : e 0 = s
        · exact Or.inr z
        · exact Or.inl (by show e 0 < s; omega)
    rw [fX3_find_L8]
    simp (disch := omega) only [gd_t, so_some, so_bind, so_gd, so_none, Option.bind_some, iI_add, iI_sub, iI_mul, iI_neg, iI_clamp, iI_nat, vin_i, iI_le, iI_lt, iI_eq, mn_i, mx_i, if_true, if_false, if_pos, if_neg, li_0, li_1, li_2, li_3, li_4, li_5, li_6, li_7, li_8, li_9, li_10, li_11, li_12, li_14, li_15, li_16, li_20, li_21, li_24, li_28, li_30, li_31, li_40, li_41, li_42, li_43, li_44, li_45, li_47, li_48, li_49, li_57, li_59, li_60, li_61, li_62, li_63, li_70, li_71, li_76, li_80, li_96, li_97, li_98, li_99, li_100, li_101, li_102, li_103, li_104, li_105, li_106, li_107, li_108, li_109, li_110, li_111, li_112, li_113, li_114, li_115, li_116, li_117, li_118, li_119, li_120, li_128, li_142, li_255, li_320, li_781, li_852, li_999, li_1000, li_2000, li_3000, li_9999, li_12345, li_65536, li_1000000, li_252645135, li_858993459, li_1103515245, li_1431655765]
    refine so_mono (c_measure hA s0 (by omega) hd steps) ?_
    rintro o ⟨st, k1, k2, k3⟩
    obtain ⟨y1, y2, y3⟩ := lnF_b (A := A) (a := s) k2.2.1 (6 - s).toNat (s + 1) 99 (by omega) (by omega) (by omega) (by omega)
    have ln := c_len_L hA (a := s) (by omega) (by omega) k2.2.1 k1 hd (6 - s).toNat (s + 1) 99 FU (by omega) (by omega) (show _ < 4000 by omega) (by omega) (by omega)
    have ln2 : fX3_lengthFrom o debt (iI s) = some (iI (lnF A st s (6 - s).toNat (s + 1) 99)) := by
      unfold fX3_lengthFrom
      rw [li_99, li_1, iI_add, ln]
      rfl
    obtain ⟨T, hT⟩ : ∃ T, lnF A st s (6 - s).toNat (s + 1) 99 = T := ⟨_, rfl⟩
    rw [hT] at ln2 y1 y2 y3
    simp only [ln2, so_bind, so_some, Option.bind_some]
    have mn : ∀ e k, Cyc A e k → e 0 = s → T ≤ k := fun e k he e0 => by
      have kk := he.1
      have x := cyc_st k3 he e0 (i := 1) (by omega) (by omega)
      have b := he.2.1.2.2.1 1 (by omega) (by omega)
      have n := he.2.1.2.2.2.1 0 1 (by omega) (by omega) (by omega)
      have ee := he.2.1.2.2.2.2 0 (by omega) (by omega)
      rw [e0] at ee
      have := y2 (e 1) (by omega) (by omega) ee
      omega
    by_cases q : L ≤ T
    · simp (disch := omega) only [gd_t, so_some, so_bind, so_gd, so_none, Option.bind_some, iI_add, iI_sub, iI_mul, iI_neg, iI_clamp, iI_nat, vin_i, iI_le, iI_lt, iI_eq, mn_i, mx_i, if_true, if_false, if_pos, if_neg, li_0, li_1, li_2, li_3, li_4, li_5, li_6, li_7, li_8, li_9, li_10, li_11, li_12, li_14, li_15, li_16, li_20, li_21, li_24, li_28, li_30, li_31, li_40, li_41, li_42, li_43, li_44, li_45, li_47, li_48, li_49, li_57, li_59, li_60, li_61, li_62, li_63, li_70, li_71, li_76, li_80, li_96, li_97, li_98, li_99, li_100, li_101, li_102, li_103, li_104, li_105, li_106, li_107, li_108, li_109, li_110, li_111, li_112, li_113, li_114, li_115, li_116, li_117, li_118, li_119, li_120, li_128, li_142, li_255, li_320, li_781, li_852, li_999, li_1000, li_2000, li_3000, li_9999, li_12345, li_65536, li_1000000, li_252645135, li_858993459, li_1103515245, li_1431655765]
      exact c_find_L hA Z hd m (s + 1) f L b least _ members (by omega) (by omega) (by omega) l2 hb (nx L b ⟨Or.inl ⟨rfl, rfl⟩, fun e k he hq => ⟨by have := mn e k he hq; omega, fun w => by omega⟩⟩)
    · have Q : StT A s T st := by
        refine ⟨k2, k3, fun t t1 t2 t3 => y2 t (by omega) t2 t3, ?_⟩
        rcases y3 with w | ⟨t, t0, t1, e, w⟩
        · omega
        · exact ⟨t, by omega, t1, e, w⟩
      have tb := Q.b Z s0 (by omega) (by omega)
      simp (disch := omega) only [gd_t, so_some, so_bind, so_gd, so_none, Option.bind_some, iI_add, iI_sub, iI_mul, iI_neg, iI_clamp, iI_nat, vin_i, iI_le, iI_lt, iI_eq, mn_i, mx_i, if_true, if_false, if_pos, if_neg, li_0, li_1, li_2, li_3, li_4, li_5, li_6, li_7, li_8, li_9, li_10, li_11, li_12, li_14, li_15, li_16, li_20, li_21, li_24, li_28, li_30, li_31, li_40, li_41, li_42, li_43, li_44, li_45, li_47, li_48, li_49, li_57, li_59, li_60, li_61, li_62, li_63, li_70, li_71, li_76, li_80, li_96, li_97, li_98, li_99, li_100, li_101, li_102, li_103, li_104, li_105, li_106, li_107, li_108, li_109, li_110, li_111, li_112, li_113, li_114, li_115, li_116, li_117, li_118, li_119, li_120, li_128, li_142, li_255, li_320, li_781, li_852, li_999, li_1000, li_2000, li_3000, li_9999, li_12345, li_65536, li_1000000, li_252645135, li_858993459, li_1103515245, li_1431655765]
      refine so_mono (c_lay hA Z s0 (by omega) Q (by omega) k1 hd least members) ?_
      rintro r ⟨b', r1, r2, r3, r4, r5⟩
      exact c_find_L hA Z hd m (s + 1) f T b' _ _ _ (by omega) (by omega) (by omega) tb.1 (fun _ => ⟨r4, r5⟩) (nx T b' ⟨Or.inr ⟨by omega, r1, r2⟩, fun e k he hq => ⟨mn e k he hq, fun _ z => by subst z; exact r3 e he hq⟩⟩)
theorem c_find {h : Int} {A : Int → Int} (hA : WA A) (Z : ZB h A) {debt : Nat → Int32} (hd : Arr 49 debt (fun i => A (21 + i))) (size least : Int32) (steps members : Nat → Int32) :
    So (fX3_find size least steps members debt) (fun o => ((∀ e k, ¬ Cyc A e k) ∧ o.1 = iI 0) ∨ (∃ L b, Cyc A b L ∧ (∀ e k, Cyc A e k → L ≤ k ∧ (k = L → Lx b e k)) ∧ o.1 = iI 1 ∧ o.2.1 = iI L ∧ o.2.2.1 = iI (lst A b L) ∧ Arr L o.2.2.2.2 b)) := by
  unfold fX3_find
  simp only [li_0, li_99, so_bind]
  refine so_mono (c_find_L hA Z hd (b0 := fun _ => 0) 7 0 FU 99 _ least steps members (by omega) (by omega) (show _ < 4000 by omega) (by omega) (fun w => by omega) ⟨Or.inl ⟨rfl, rfl⟩, fun e k he hx => by have := he.2.1.2.1; have hx : e 0 < 0 := hx; omega⟩) ?_
  rintro o ⟨L, b, l2, o1, o2, O⟩
  rw [o1]
  have lO := O.le
  rcases O.1 with ⟨rfl, -⟩ | ⟨w1, w2, -⟩
  · simp (disch := omega) only [gd_t, so_some, so_bind, so_gd, so_none, Option.bind_some, iI_add, iI_sub, iI_mul, iI_neg, iI_clamp, iI_nat, vin_i, iI_le, iI_lt, iI_eq, mn_i, mx_i, if_true, if_false, if_pos, if_neg, li_0, li_1, li_2, li_3, li_4, li_5, li_6, li_7, li_8, li_9, li_10, li_11, li_12, li_14, li_15, li_16, li_20, li_21, li_24, li_28, li_30, li_31, li_40, li_41, li_42, li_43, li_44, li_45, li_47, li_48, li_49, li_57, li_59, li_60, li_61, li_62, li_63, li_70, li_71, li_76, li_80, li_96, li_97, li_98, li_99, li_100, li_101, li_102, li_103, li_104, li_105, li_106, li_107, li_108, li_109, li_110, li_111, li_112, li_113, li_114, li_115, li_116, li_117, li_118, li_119, li_120, li_128, li_142, li_255, li_320, li_781, li_852, li_999, li_1000, li_2000, li_3000, li_9999, li_12345, li_65536, li_1000000, li_252645135, li_858993459, li_1103515245, li_1431655765]
    refine Or.inl ⟨fun e k he => ?_, (by first | rfl | trivial)⟩
    have := (O.2 e k he True.intro).1
    have := he.2.1.1
    omega
  · have k7 := w2.2.1.1
    simp (disch := omega) only [gd_t, so_some, so_bind, so_gd, so_none, Option.bind_some, iI_add, iI_sub, iI_mul, iI_neg, iI_clamp, iI_nat, vin_i, iI_le, iI_lt, iI_eq, mn_i, mx_i, if_true, if_false, if_pos, if_neg, li_0, li_1, li_2, li_3, li_4, li_5, li_6, li_7, li_8, li_9, li_10, li_11, li_12, li_14, li_15, li_16, li_20, li_21, li_24, li_28, li_30, li_31, li_40, li_41, li_42, li_43, li_44, li_45, li_47, li_48, li_49, li_57, li_59, li_60, li_61, li_62, li_63, li_70, li_71, li_76, li_80, li_96, li_97, li_98, li_99, li_100, li_101, li_102, li_103, li_104, li_105, li_106, li_107, li_108, li_109, li_110, li_111, li_112, li_113, li_114, li_115, li_116, li_117, li_118, li_119, li_120, li_128, li_142, li_255, li_320, li_781, li_852, li_999, li_1000, li_2000, li_3000, li_9999, li_12345, li_65536, li_1000000, li_252645135, li_858993459, li_1103515245, li_1431655765]
    exact Or.inr ⟨L, b, w2, fun e k he => ⟨(O.2 e k he True.intro).1, (O.2 e k he True.intro).2 w1⟩, (by first | rfl | trivial), (by first | rfl | trivial), (o2 w1).1, (o2 w1).2⟩
/-- both find the same -/
theorem rg_both {h : Int} (h0 : 0 ≤ h) (h7 : h ≤ 7) {A : Int → Int} (hA : WA A) (Z : ZB h A) {debt now : Nat → Int32} (hd : Arr 49 debt (fun i => A (21 + i))) (hn : Arr 71 now A) (size least : Int32) (steps members : Nat → Int32) (L0 : Int32) (ring best : Nat → Int32) :
    So (fX3_find size least steps members debt) (fun o => So (fX12_findRing (iI h) L0 ring now best) (fun p => ((∀ e k, ¬ Cyc A e k) ∧ o.1 = iI 0 ∧ p.1 = iI 0) ∨ (∃ L b, Cyc A b L ∧ o.1 = iI 1 ∧ o.2.1 = iI L ∧ o.2.2.1 = iI (lst A b L) ∧ Arr L o.2.2.2.2 b ∧ p.1 = iI (lst A b L) ∧ p.2.1 = iI L ∧ Arr L p.2.2.2 b))) := by
  refine so_mono (c_find hA Z hd size least steps members) ?_
  intro o ho
  refine so_mono (m_findRing h0 h7 hA Z hn L0 ring best) ?_
  intro p hp
  rcases ho with ⟨n1, o1⟩ | ⟨L, b, c1, c2, o1, o2, o3, o4⟩
  · rcases hp with ⟨-, p1⟩ | ⟨L, b, c1, _⟩
    · exact Or.inl ⟨n1, o1, p1⟩
    · exact absurd c1 (n1 b L)
  · rcases hp with ⟨n1, p1⟩ | ⟨L', b', d1, d2, p1, p2, p3⟩
    · exact absurd c1 (n1 b L)
    · have e : L' = L := by
        have x := (c2 b' L' d1).1
        have y := (d2 b L c1).1
        omega
      subst e
      have eb : ∀ i, 0 ≤ i → i < L' → b' i = b i := fun i i0 i1 => Lx_eq ((d2 b L' c1).2 rfl) ((c2 b' L' d1).2 rfl) (i.toNat + 1) i i0 i1 (by omega)
      have k2 := c1.1
      have el : lst A b' L' = lst A b L' := lsF_congr eb L'.toNat 0 9999 (by omega) (by omega)
      exact Or.inr ⟨L', b, c1, o1, o2, o3, o4, by rw [p1, el], p2, p3.congr (fun x x0 x1 => eb x x0 x1)⟩
