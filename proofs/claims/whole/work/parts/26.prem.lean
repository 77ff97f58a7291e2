theorem s_prem_L {h : Int} (h1 : 1 ≤ h) (h7 : h ≤ 7) {w : Int} (w0 : 0 ≤ w) (w1 : w < 2147483000) {ob : Int → Int} (hb0 : ∀ i, 0 ≤ i → i < 7 → 0 ≤ ob i ∧ ob i < 2147483000) {oC oM : Nat → Int32} (hC : Arr 7 oC ob) (hM : Arr 7 oM ob) : ∀ (m : Nat) (k : Int) (f : Nat) (v : Int) (l : List Int32) (c d : Int32) (a b : Nat → Int32),
    0 ≤ k → k + m = h → m < f → 0 ≤ v → v < 2147483000 → Rw l c a → Rw l d b → l.length + m ≤ 8 →
    So (fX11_premium_L55 (iI h) (iI w) oC f (iI v) (iI k) c a) (fun o => fX12_premium_L33 (iI h) oM f (iI v) (iI k) = some o.1 ∧ So (fX12_premium_L65 (iI h) (iI w) f (iI k) d b) (fun p => ∃ l', l'.length = l.length + m ∧ (∀ i : Nat, i < l.length → l'[i]? = l[i]?) ∧ Rw l' o.2.1 o.2.2 ∧ Rw l' p.1 p.2))
  | 0, k, f + 1, v, l, c, d, a, b, h0, hk, hf, v0, v1, hr, hs, hl => by
    rw [fX11_premium_L55, fX12_premium_L33, fX12_premium_L65]
    simp (disch := omega) only [gd_t, so_some, so_bind, so_gd, so_none, Option.bind_some, iI_add, iI_sub, iI_mul, iI_neg, iI_clamp, iI_nat, vin_i, iI_le, iI_lt, iI_eq, mn_i, mx_i, if_true, if_false, if_pos, if_neg, li_0, li_1, li_2, li_3, li_4, li_5, li_6, li_7, li_8, li_9, li_10, li_11, li_12, li_14, li_15, li_16, li_20, li_21, li_24, li_28, li_30, li_31, li_40, li_41, li_42, li_43, li_44, li_45, li_47, li_48, li_49, li_57, li_59, li_60, li_61, li_62, li_63, li_70, li_71, li_76, li_80, li_96, li_97, li_98, li_99, li_100, li_101, li_102, li_103, li_104, li_105, li_106, li_107, li_108, li_109, li_110, li_111, li_112, li_113, li_114, li_115, li_116, li_117, li_118, li_119, li_120, li_128, li_142, li_255, li_320, li_781, li_852, li_999, li_1000, li_2000, li_3000, li_9999, li_12345, li_65536, li_1000000, li_252645135, li_858993459, li_1103515245, li_1431655765]
    exact ⟨(by first | rfl | trivial), l, rfl, fun _ _ => rfl, hr, hs⟩
  | m + 1, k, f + 1, v, l, c, d, a, b, h0, hk, hf, v0, v1, hr, hs, hl => by
    have b1 := hb0 k h0 (by omega)
    have hm := fun x => s_prem_L h1 h7 w0 w1 hb0 hC hM m (k + 1) f (max v (ob k)) (l ++ [x])
    have fin : ∀ x : Int32, So (Option.bind (fX11_tellMore c a x) (fun o => fX11_premium_L55 (iI h) (iI w) oC f (iI (max v (ob k))) (iI (k + 1)) o.1 o.2)) (fun o => fX12_premium_L33 (iI h) oM f (iI (max v (ob k))) (iI (k + 1)) = some o.1 ∧ So (Option.bind (fX12_tell d b x) (fun p => fX12_premium_L65 (iI h) (iI w) f (iI (k + 1)) p.1 p.2)) (fun p => ∃ l', l'.length = l.length + (m + 1) ∧ (∀ i : Nat, i < l.length → l'[i]? = l[i]?) ∧ Rw l' o.2.1 o.2.2 ∧ Rw l' p.1 p.2)) := by
      intro x
      obtain ⟨p, hp, hp2⟩ := m_more hs (by omega) x
      simp only [so_bind, hp, so_some]
      refine so_mono (c_more hr (by omega) x) ?_
      intro o ho
      refine so_mono (hm x o.1 p.1 o.2 p.2 (by omega) (by omega) (by omega) (by omega) (by omega) ho hp2 (by rw [List.length_append]; show l.length + 1 + m ≤ 8; omega)) ?_
      rintro q ⟨q1, q2⟩
      refine ⟨q1, so_mono q2 ?_⟩
      rintro r ⟨l', r1, r2, r3, r4⟩
      refine ⟨l', ?_, fun i hi => ?_, r3, r4⟩
      · rw [r1, List.length_append]; show l.length + 1 + m = l.length + (m + 1); omega
      · rw [r2 i (by rw [List.length_append]; omega), List.getElem?_append_left hi]
    rw [fX11_premium_L55, fX12_premium_L33, fX12_premium_L65]
    have n1 : nz (iI h) = true := nz_i (by omega) (by omega) (by omega)
    have r1 : rem (iI w) (iI h) = iI (w % h) := iI_rem w0 (by omega) (by omega) (by omega)
    have r2 : 0 ≤ w % h := Int.emod_nonneg w (by omega)
    have r3 : w % h < h := Int.emod_lt_of_pos w (by omega)
    by_cases q : w % h ≤ k
    · simp (disch := omega) only [li_0, li_1, li_2, li_3, li_4, li_5, li_6, li_7, li_8, li_9, li_10, li_11, li_12, li_14, li_15, li_16, li_20, li_21, li_24, li_28, li_30, li_31, li_40, li_41, li_42, li_43, li_44, li_45, li_47, li_48, li_49, li_57, li_59, li_60, li_61, li_62, li_63, li_70, li_71, li_76, li_80, li_96, li_97, li_98, li_99, li_100, li_101, li_102, li_103, li_104, li_105, li_106, li_107, li_108, li_109, li_110, li_111, li_112, li_113, li_114, li_115, li_116, li_117, li_118, li_119, li_120, li_128, li_142, li_255, li_320, li_781, li_852, li_999, li_1000, li_2000, li_3000, li_9999, li_12345, li_65536, li_1000000, li_252645135, li_858993459, li_1103515245, li_1431655765, gd_t, iI_clamp, vin_i, iI_le, if_pos, if_neg, hC.at, hM.at, n1, r1, mx_i, iI_add k 1]
      exact fin _
    · simp (disch := omega) only [li_0, li_1, li_2, li_3, li_4, li_5, li_6, li_7, li_8, li_9, li_10, li_11, li_12, li_14, li_15, li_16, li_20, li_21, li_24, li_28, li_30, li_31, li_40, li_41, li_42, li_43, li_44, li_45, li_47, li_48, li_49, li_57, li_59, li_60, li_61, li_62, li_63, li_70, li_71, li_76, li_80, li_96, li_97, li_98, li_99, li_100, li_101, li_102, li_103, li_104, li_105, li_106, li_107, li_108, li_109, li_110, li_111, li_112, li_113, li_114, li_115, li_116, li_117, li_118, li_119, li_120, li_128, li_142, li_255, li_320, li_781, li_852, li_999, li_1000, li_2000, li_3000, li_9999, li_12345, li_65536, li_1000000, li_252645135, li_858993459, li_1103515245, li_1431655765, gd_t, iI_clamp, vin_i, iI_le, if_pos, if_neg, hC.at, hM.at, n1, r1, mx_i, iI_add k 1]
      exact fin _
theorem s_premium {n : Int} {σ : CS} {τ : MS} (h : R n σ τ) (hn : n < 1000) (p1 : Int32) : OkT n σ (x_premium σ p1) (fX11_premium_T (σ.1 26) p1) (y_premium τ p1) := by
  obtain ⟨n0, g, c, m, G⟩ := h
  obtain ⟨P, rfl, b0, b1⟩ := iI_of p1
  obtain ⟨c1, c2, c3, c4, c5, c6, c7, c8, c9⟩ := c
  obtain ⟨m1, m2, m3, m4, m5, m6, m7, m8, m9⟩ := m
  have e := G.1.1
  have hS := G.2.2.1
  have a7 := hS.2.2
  unfold OkT x_premium y_premium fX11_premium fX12_premium fX11_premium_T
  rw [c1.1, m1.1]
  by_cases q2 : g.1.1 = 0
  · right
    have z : (iI g.1.1 : Int32) = 0 := by rw [q2]; rfl
    simp only [if_pos z, fX12_lost]
    simp only [so_bind, so_some]
    exact ⟨(by first | rfl | trivial), rfl, R.same ⟨n0.1, hn⟩ G ⟨c1, c2, c3, c4, c5, c6, c7, c8, c9⟩ ⟨m1, m2, m3, m4, m5, m6, m7, m8, m9⟩⟩
  · have z : ¬ (iI g.1.1 : Int32) = 0 := by rw [li_0, iI_eq (by omega) (by omega) (by omega) (by omega)]; exact q2
    by_cases q : 0 ≤ P ∧ P ≤ 60
    · have z1 := win_t (a := P) (b := 0) (c := 60) (by omega) (by omega) q
      have z2 := isD_t q
      left
      have hw := c_walkFrom G.1 c1 hS.1 q.1 (by omega) (by omega) c3 (σ.1 28) (σ.1 30) (σ.1 32) (σ.1 29) (σ.1 31) (σ.2.1 35) (σ.2.1 34) (σ.2.1 33) (σ.2.1 32) (σ.2.1 20) (σ.2.1 19)
      obtain ⟨go, hgo, k1, k2, k3, k4, k5⟩ := m_goOn G.1 m1 hS.1 q.1 (by omega) (by omega) m3 τ.2.2 (τ.1 11) (τ.1 20) (τ.1 6) (τ.1 25) (τ.1 10) (τ.1 2) (τ.1 4) (τ.1 1) (τ.1 5) (τ.1 0) (τ.1 3) (τ.1 18) (τ.1 13) (τ.1 17) (τ.2.1 13) (τ.2.1 19)
      rw [c1.1] at hw
      rw [m1.1] at hgo
      simp only [if_neg z]
      simp only [li_0, li_60, z1, z2, Option.bind_some, hgo]
      simp (disch := omega) only [gd_t, so_some, so_bind, so_gd, so_none, Option.bind_some, iI_add, iI_sub, iI_mul, iI_neg, iI_clamp, iI_nat, vin_i, iI_le, iI_lt, iI_eq, mn_i, mx_i, if_true, if_false, if_pos, if_neg, li_0, li_1, li_2, li_3, li_4, li_5, li_6, li_7, li_8, li_9, li_10, li_11, li_12, li_14, li_15, li_16, li_20, li_21, li_24, li_28, li_30, li_31, li_40, li_41, li_42, li_43, li_44, li_45, li_47, li_48, li_49, li_57, li_59, li_60, li_61, li_62, li_63, li_70, li_71, li_76, li_80, li_96, li_97, li_98, li_99, li_100, li_101, li_102, li_103, li_104, li_105, li_106, li_107, li_108, li_109, li_110, li_111, li_112, li_113, li_114, li_115, li_116, li_117, li_118, li_119, li_120, li_128, li_142, li_255, li_320, li_781, li_852, li_999, li_1000, li_2000, li_3000, li_9999, li_12345, li_65536, li_1000000, li_252645135, li_858993459, li_1103515245, li_1431655765]
      refine so_mono hw ?_
      rintro o ⟨d1, d2, d3, d4, d5, d6⟩
      rw [fdys_1] at d1 d6
      rw [mdys_1] at k2 k4
      dsimp only [fw0] at d1 d6
      dsimp only [mw0] at k2 k4
      rw [d1, k2]
      have x1 := dys_ow G.1 P.toNat (ws0 g.2.2.1)
      have x2 : 0 ≤ (dys g.1 P.toNat (ws0 g.2.2.1)).2.1 ∧ (dys g.1 P.toNat (ws0 g.2.2.1)).2.1 ≤ 0 + 1386 * (P.toNat : Int) := x1
      have x3 : ∀ i, 0 ≤ i → i < 7 → 0 ≤ (dys g.1 P.toNat (ws0 g.2.2.1)).2.2 i ∧ (dys g.1 P.toNat (ws0 g.2.2.1)).2.2 i < 2147483000 := fun i i0 i1 => by
        have y := dys_ob G.1 i P.toNat (ws0 g.2.2.1)
        have y : 0 ≤ (dys g.1 P.toNat (ws0 g.2.2.1)).2.2 i ∧ (dys g.1 P.toNat (ws0 g.2.2.1)).2.2 i ≤ 0 + 1386 * (P.toNat : Int) := y
        omega
      refine so_mono (s_prem_L (by omega) e.2 (by omega) (by omega) x3 d6 k4 g.1.1.toNat 0 FU 0 [] (iI 0) (iI 0) _ (τ.2.1 16) (by omega) (by omega) (show _ < 4000 by omega) (by omega) (by omega) (Rw.nil _) (Rw.nil _) (by show 0 + _ ≤ 8; omega)) ?_
      rintro r ⟨r1, r2⟩
      simp only [r1, so_some]
      refine so_mono r2 ?_
      rintro s ⟨l', l1, -, hr, hs⟩
      have l2 : 0 < l'.length := by rw [l1]; show 0 < 0 + _; omega
      have e1 := List.getElem?_eq_getElem l2
      refine ⟨?_, (by first | rfl | trivial), R.tol ⟨n0.1, hn⟩ G hr (by rw [l1]; show 0 + _ ≤ 8; omega) ⟨c1, c2, c3, c4, c5, c6, hr, c8, c9⟩ ⟨m1, m2, m3, m4, m5, m6, hs, m8, m9⟩⟩
      have f1 := hr.2 0 _ e1
      have f2 := hs.2 0 _ e1
      show r.1 - r.2.2 (0 : Int).toNat = r.1 - s.2 (0 : Int).toNat
      rw [show (0 : Int).toNat = 0 from rfl, f1, f2]
    · have z1 := win_f (a := P) (b := 0) (c := 60) b0 b1 (by omega) (by omega) (by omega) (by omega) q
      have z2 := isD_f b0 b1 q
      right
      simp only [if_neg z]
      simp only [li_0, li_60, z1, z2, Option.bind_some, fX12_lost]
      simp (disch := omega) only [gd_t, so_some, so_bind, so_gd, so_none, Option.bind_some, iI_add, iI_sub, iI_mul, iI_neg, iI_clamp, iI_nat, vin_i, iI_le, iI_lt, iI_eq, mn_i, mx_i, if_true, if_false, if_pos, if_neg, li_0, li_1, li_2, li_3, li_4, li_5, li_6, li_7, li_8, li_9, li_10, li_11, li_12, li_14, li_15, li_16, li_20, li_21, li_24, li_28, li_30, li_31, li_40, li_41, li_42, li_43, li_44, li_45, li_47, li_48, li_49, li_57, li_59, li_60, li_61, li_62, li_63, li_70, li_71, li_76, li_80, li_96, li_97, li_98, li_99, li_100, li_101, li_102, li_103, li_104, li_105, li_106, li_107, li_108, li_109, li_110, li_111, li_112, li_113, li_114, li_115, li_116, li_117, li_118, li_119, li_120, li_128, li_142, li_255, li_320, li_781, li_852, li_999, li_1000, li_2000, li_3000, li_9999, li_12345, li_65536, li_1000000, li_252645135, li_858993459, li_1103515245, li_1431655765]
      exact ⟨(by first | rfl | trivial), rfl, R.same ⟨n0.1, hn⟩ G ⟨c1, c2, c3, c4, c5, c6, c7, c8, c9⟩ ⟨m1, m2, m3, m4, m5, m6, m7, m8, m9⟩⟩
