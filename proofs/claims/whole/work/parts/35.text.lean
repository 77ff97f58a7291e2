/-! sheet, sign, end, winter -/
theorem ush_n (x : Int32) (s : Nat) (hs : s < 32) : (ush x (iI s)).toBitVec = x.toBitVec >>> s := by
  unfold ush
  have : ((iI s).toUInt32 &&& Int32.toUInt32 31).toBitVec.toNat = s := by
    have h : ∀ t : Fin 32, ((iI (t.val : Int)).toUInt32 &&& Int32.toUInt32 31).toBitVec.toNat = t.val := by decide
    exact h ⟨s, hs⟩
  show (x.toBitVec >>> ((((iI s).toUInt32 &&& Int32.toUInt32 31).toBitVec) % 32#32)) = _
  rw [BitVec.ushiftRight_eq', BitVec.toNat_umod, this, show (32#32).toNat = 32 from rfl, Nat.mod_eq_of_lt hs]
theorem ush_16 (x : Int32) : ∃ X : Int, ush x (iI 16) = iI X ∧ 0 ≤ X ∧ X < 65536 := by
  have h := ush_n x 16 (by omega)
  refine ⟨((x.toBitVec.toNat / 65536 : Nat) : Int), ?_, by omega, ?_⟩
  · apply Int32.toBitVec_inj.1
    show (ush x (iI ((16 : Nat) : Int))).toBitVec = _
    rw [h]
    apply BitVec.eq_of_toNat_eq
    have q := x.toBitVec.isLt
    rw [BitVec.toNat_ushiftRight, Nat.shiftRight_eq_div_pow]
    show _ = (BitVec.ofInt 32 _).toNat
    rw [BitVec.toNat_ofInt]
    omega
  · have q := x.toBitVec.isLt
    omega
theorem sg_b (x : Int32) (s : Nat) (hs : s = 24 ∨ s = 16 ∨ s = 8 ∨ s = 0) : ∃ b : Int, 0 ≤ b ∧ b ≤ 255 ∧ (ush x (iI s) &&& iI 255) = iI b ∧ ((x >>> ((iI s) &&& 31)).toInt8.toInt32) = iI (sb b) := by
  have q := x.toBitVec.isLt
  have t : x.toInt = if 2 * x.toBitVec.toNat < 4294967296 then (x.toBitVec.toNat : Int) else x.toBitVec.toNat - 4294967296 := BitVec.toInt_eq_toNat_cond x.toBitVec
  have h := ush_n x s (by omega)
  refine ⟨((x.toBitVec.toNat / 2 ^ s % 256 : Nat) : Int), by omega, by omega, ?_, ?_⟩
  · apply Int32.toBitVec_inj.1
    rw [Int32.toBitVec_and, h]
    apply BitVec.eq_of_toNat_eq
    rw [BitVec.toNat_and, BitVec.toNat_ushiftRight, Nat.shiftRight_eq_div_pow]
    show _ &&& 255 = (BitVec.ofInt 32 _).toNat
    rw [BitVec.toNat_ofInt, show (255 : Nat) = 2 ^ 8 - 1 from rfl, Nat.and_two_pow_sub_one_eq_mod]
    omega
  · apply Int32.toInt.inj
    have e : (x >>> ((iI s) &&& 31)).toInt = x.toInt / 2 ^ s := by
      show (x.toBitVec.sshiftRight' (((iI s) &&& 31).toBitVec.smod 32)).toInt = _
      have : (((iI s) &&& 31).toBitVec.smod 32).toNat = s := by
        rcases hs with rfl | rfl | rfl | rfl <;> decide
      rw [BitVec.sshiftRight_eq', this, BitVec.toInt_sshiftRight, Int.shiftRight_eq_div_pow]
      rfl
    rw [Int8.toInt_toInt32, Int32.toInt_toInt8, e, iI_toInt (by unfold sb; split <;> omega) (by unfold sb; split <;> omega), Int.bmod_def, t]
    unfold sb
    rcases hs with rfl | rfl | rfl | rfl <;> (split <;> split <;> split <;> omega)
theorem s_end {n : Int} {σ : CS} {τ : MS} (h : R n σ τ) (hn : n < 1000) (p1 : Int32) : Ok n (x_end σ p1) (y_end τ p1) := by
  obtain ⟨n0, g, c, m, G⟩ := h
  obtain ⟨P, rfl, b0, b1⟩ := iI_of p1
  obtain ⟨c1, c2, c3, c4, c5, c6, c7, c8, c9⟩ := c
  obtain ⟨m1, m2, m3, m4, m5, m6, m7, m8, m9⟩ := m
  have e := G.1.1
  have hS := G.2.2.1
  have a7 := hS.2.2
  have g6 := G.2.2.2.2.2.1
  unfold Ok x_end y_end fX11_end fX12_end fX6_cut
  rw [c6.2, m6.2]
  by_cases q : 0 ≤ P ∧ P ≤ g.2.2.2.2.2.2.2.1
  · have z1 := in_t (a := P) (b := 0) (c := g.2.2.2.2.2.2.2.1) (by omega) (by omega) q
    rw [li_0, z1]
    simp (disch := omega) only [gd_t, so_some, so_bind, so_gd, so_none, Option.bind_some, iI_add, iI_sub, iI_mul, iI_neg, iI_clamp, iI_nat, vin_i, iI_le, iI_lt, iI_eq, mn_i, mx_i, if_true, if_false, if_pos, if_neg, li_0, li_1, li_2, li_3, li_4, li_5, li_6, li_7, li_8, li_9, li_10, li_11, li_12, li_14, li_15, li_16, li_20, li_21, li_24, li_28, li_30, li_31, li_40, li_41, li_42, li_43, li_44, li_45, li_47, li_48, li_49, li_57, li_59, li_60, li_61, li_62, li_63, li_70, li_71, li_76, li_80, li_96, li_97, li_98, li_99, li_100, li_101, li_102, li_103, li_104, li_105, li_106, li_107, li_108, li_109, li_110, li_111, li_112, li_113, li_114, li_115, li_116, li_117, li_118, li_119, li_120, li_128, li_142, li_255, li_320, li_781, li_852, li_999, li_1000, li_2000, li_3000, li_9999, li_12345, li_65536, li_1000000, li_252645135, li_858993459, li_1103515245, li_1431655765, isb_1]
    obtain ⟨h1, h2, h3, h4, h5, h6, h7, h8, h9⟩ := G.mono (show n ≤ n + 1 by omega)
    exact ⟨(by first | rfl | trivial), by omega, ((g.1, g.2.1, g.2.2.1, g.2.2.2.1, g.2.2.2.2.1, g.2.2.2.2.2.1, g.2.2.2.2.2.2.1, P, g.2.2.2.2.2.2.2.2.1, g.2.2.2.2.2.2.2.2.2.1, g.2.2.2.2.2.2.2.2.2.2.1, g.2.2.2.2.2.2.2.2.2.2.2.1, g.2.2.2.2.2.2.2.2.2.2.2.2.1, g.2.2.2.2.2.2.2.2.2.2.2.2.2.1, g.2.2.2.2.2.2.2.2.2.2.2.2.2.2.1, g.2.2.2.2.2.2.2.2.2.2.2.2.2.2.2) : GH), ⟨c1, c2, c3, c4, c5, ⟨c6.1, rfl⟩, c7, c8, c9⟩, ⟨m1, m2, m3, m4, m5, ⟨m6.1, rfl⟩, m7, m8, m9⟩, h1, h2, h3, h4, h5, ⟨q.1, by show P ≤ 80; omega, h6.2.2⟩, h7, h8, h9⟩
  · have z1 := in_f (a := P) (b := 0) (c := g.2.2.2.2.2.2.2.1) (by omega) (by omega) (by omega) (by omega) (by omega) (by omega) q
    rw [li_0, z1]
    by_cases q0 : P < 0
    · simp (disch := omega) only [gd_t, so_some, so_bind, so_gd, so_none, Option.bind_some, iI_add, iI_sub, iI_mul, iI_neg, iI_clamp, iI_nat, vin_i, iI_le, iI_lt, iI_eq, mn_i, mx_i, if_true, if_false, if_pos, if_neg, li_0, li_1, li_2, li_3, li_4, li_5, li_6, li_7, li_8, li_9, li_10, li_11, li_12, li_14, li_15, li_16, li_20, li_21, li_24, li_28, li_30, li_31, li_40, li_41, li_42, li_43, li_44, li_45, li_47, li_48, li_49, li_57, li_59, li_60, li_61, li_62, li_63, li_70, li_71, li_76, li_80, li_96, li_97, li_98, li_99, li_100, li_101, li_102, li_103, li_104, li_105, li_106, li_107, li_108, li_109, li_110, li_111, li_112, li_113, li_114, li_115, li_116, li_117, li_118, li_119, li_120, li_128, li_142, li_255, li_320, li_781, li_852, li_999, li_1000, li_2000, li_3000, li_9999, li_12345, li_65536, li_1000000, li_252645135, li_858993459, li_1103515245, li_1431655765, isb_0]
      exact ⟨(by first | rfl | trivial), R.same ⟨n0.1, hn⟩ G ⟨c1, c2, c3, c4, c5, ⟨c6.1, rfl⟩, c7, c8, c9⟩ ⟨m1, m2, m3, m4, m5, ⟨m6.1, rfl⟩, m7, m8, m9⟩⟩
    · simp (disch := omega) only [gd_t, so_some, so_bind, so_gd, so_none, Option.bind_some, iI_add, iI_sub, iI_mul, iI_neg, iI_clamp, iI_nat, vin_i, iI_le, iI_lt, iI_eq, mn_i, mx_i, if_true, if_false, if_pos, if_neg, li_0, li_1, li_2, li_3, li_4, li_5, li_6, li_7, li_8, li_9, li_10, li_11, li_12, li_14, li_15, li_16, li_20, li_21, li_24, li_28, li_30, li_31, li_40, li_41, li_42, li_43, li_44, li_45, li_47, li_48, li_49, li_57, li_59, li_60, li_61, li_62, li_63, li_70, li_71, li_76, li_80, li_96, li_97, li_98, li_99, li_100, li_101, li_102, li_103, li_104, li_105, li_106, li_107, li_108, li_109, li_110, li_111, li_112, li_113, li_114, li_115, li_116, li_117, li_118, li_119, li_120, li_128, li_142, li_255, li_320, li_781, li_852, li_999, li_1000, li_2000, li_3000, li_9999, li_12345, li_65536, li_1000000, li_252645135, li_858993459, li_1103515245, li_1431655765, isb_0]
      exact ⟨(by first | rfl | trivial), R.same ⟨n0.1, hn⟩ G ⟨c1, c2, c3, c4, c5, ⟨c6.1, rfl⟩, c7, c8, c9⟩ ⟨m1, m2, m3, m4, m5, ⟨m6.1, rfl⟩, m7, m8, m9⟩⟩
theorem sg_c (x : Int32) {k : Int} (h0 : 0 ≤ k) (h1 : k < 4) : ∃ b : Int, 0 ≤ b ∧ b ≤ 255 ∧ (ush x (iI (24 - 8 * k)) &&& iI 255) = iI b ∧ vp_nar .byte ((x >>> ((iI (8 * (3 - k))) &&& 31)).toInt8.toInt32) = iI (sb b) := by
  have key : ∀ s : Nat, s = 24 ∨ s = 16 ∨ s = 8 ∨ s = 0 → ∃ b : Int, 0 ≤ b ∧ b ≤ 255 ∧ (ush x (iI s) &&& iI 255) = iI b ∧ vp_nar .byte ((x >>> ((iI s) &&& 31)).toInt8.toInt32) = iI (sb b) := by
    intro s hs
    obtain ⟨b, b0, b1, b2, b3⟩ := sg_b x s hs
    refine ⟨b, b0, b1, b2, ?_⟩
    rw [b3]
    show (iI (sb b)).toInt8.toInt32 = _
    apply Int32.toInt.inj
    rw [Int8.toInt_toInt32, Int32.toInt_toInt8, iI_toInt (by unfold sb; split <;> omega) (by unfold sb; split <;> omega), Int.bmod_def]
    unfold sb
    split <;> split <;> omega
  have e : k = 0 ∨ k = 1 ∨ k = 2 ∨ k = 3 := by omega
  rcases e with rfl | rfl | rfl | rfl
  · exact key 24 (by omega)
  · exact key 16 (by omega)
  · exact key 8 (by omega)
  · exact key 0 (by omega)
theorem s_sign_L (x : Int32) {l : Int} (l0 : 0 ≤ l) (l1 : l ≤ 76) : ∀ (m : Nat) (k : Int) (f : Nat) (a b : Nat → Int32) (T : Int → Int), 0 ≤ k → k + m = 4 → m < f → Arr 80 a T → Arr 80 b (fun i => sb (T i)) → (∀ i, 0 ≤ T i ∧ T i ≤ 255) →
    So (fX6_append_L13 x (iI l) f (iI k) a) (fun o => So (fX12_sign_L20 x f (iI (3 - k)) (iI (l + k)) b) (fun p => p.1 = iI (l + 4) ∧ ∃ T', Arr 80 o T' ∧ Arr 80 p.2 (fun i => sb (T' i)) ∧ ∀ i, 0 ≤ T' i ∧ T' i ≤ 255))
  | 0, k, f + 1, a, b, T, k0, hk, hf, ha, hb, hT => by
    rw [fX6_append_L13, fX12_sign_L20]
    simp (disch := omega) only [gd_t, so_some, so_bind, so_gd, so_none, Option.bind_some, iI_add, iI_sub, iI_mul, iI_neg, iI_clamp, iI_nat, vin_i, iI_le, iI_lt, iI_eq, mn_i, mx_i, if_true, if_false, if_pos, if_neg, li_0, li_1, li_2, li_3, li_4, li_5, li_6, li_7, li_8, li_9, li_10, li_11, li_12, li_14, li_15, li_16, li_20, li_21, li_24, li_28, li_30, li_31, li_40, li_41, li_42, li_43, li_44, li_45, li_47, li_48, li_49, li_57, li_59, li_60, li_61, li_62, li_63, li_70, li_71, li_76, li_80, li_96, li_97, li_98, li_99, li_100, li_101, li_102, li_103, li_104, li_105, li_106, li_107, li_108, li_109, li_110, li_111, li_112, li_113, li_114, li_115, li_116, li_117, li_118, li_119, li_120, li_128, li_142, li_255, li_320, li_781, li_852, li_999, li_1000, li_2000, li_3000, li_9999, li_12345, li_65536, li_1000000, li_252645135, li_858993459, li_1103515245, li_1431655765]
    exact ⟨by rw [show l + k = l + 4 by omega], T, ha, hb, hT⟩
  | m + 1, k, f + 1, a, b, T, k0, hk, hf, ha, hb, hT => by
    obtain ⟨v, v0, v1, v2, v3⟩ := sg_c x k0 (by omega)
    have ih := s_sign_L x l0 l1 m (k + 1) f (upd a (l + k).toNat (iI v)) (upd b (l + k).toNat (iI (sb v))) (upI T (l + k) v) (by omega) (by omega) (by omega) (ha.up v (by omega)) ((hb.up (sb v) (by omega)).congr (fun y y0 y1 => by
      by_cases q : y = l + k
      · rw [q, upI_s, upI_s]
      · rw [upI_o _ q, upI_o _ q])) (fun i => upI_b (P := fun z => 0 ≤ z ∧ z ≤ 255) ⟨v0, v1⟩ (hT i))
    rw [fX6_append_L13, fX12_sign_L20]
    simp only [li_8, li_24, li_255, iI_mul, iI_sub, v2, v3]
    simp (disch := omega) only [gd_t, so_some, so_bind, so_gd, so_none, Option.bind_some, iI_add, iI_sub, iI_mul, iI_neg, iI_clamp, iI_nat, vin_i, iI_le, iI_lt, iI_eq, mn_i, mx_i, if_true, if_false, if_pos, if_neg, li_0, li_1, li_2, li_3, li_4, li_5, li_6, li_7, li_8, li_9, li_10, li_11, li_12, li_14, li_15, li_16, li_20, li_21, li_24, li_28, li_30, li_31, li_40, li_41, li_42, li_43, li_44, li_45, li_47, li_48, li_49, li_57, li_59, li_60, li_61, li_62, li_63, li_70, li_71, li_76, li_80, li_96, li_97, li_98, li_99, li_100, li_101, li_102, li_103, li_104, li_105, li_106, li_107, li_108, li_109, li_110, li_111, li_112, li_113, li_114, li_115, li_116, li_117, li_118, li_119, li_120, li_128, li_142, li_255, li_320, li_781, li_852, li_999, li_1000, li_2000, li_3000, li_9999, li_12345, li_65536, li_1000000, li_252645135, li_858993459, li_1103515245, li_1431655765]
    rw [show 3 - k + -1 = 3 - (k + 1) by omega, show l + k + 1 = l + (k + 1) by omega]
    exact ih
theorem s_sign {n : Int} {σ : CS} {τ : MS} (h : R n σ τ) (hn : n < 1000) (p1 : Int32) : Ok n (x_sign σ p1) (y_sign τ p1) := by
  obtain ⟨n0, g, c, m, G⟩ := h
  obtain ⟨c1, c2, c3, c4, c5, c6, c7, c8, c9⟩ := c
  obtain ⟨m1, m2, m3, m4, m5, m6, m7, m8, m9⟩ := m
  have e := G.1.1
  have hS := G.2.2.1
  have a7 := hS.2.2
  have g6 := G.2.2.2.2.2.1
  unfold Ok x_sign y_sign fX11_sign fX12_sign fX6_append
  rw [c6.2, m6.2]
  by_cases q : g.2.2.2.2.2.2.2.1 ≤ 76
  · simp (disch := omega) only [gd_t, so_some, so_bind, so_gd, so_none, Option.bind_some, iI_add, iI_sub, iI_mul, iI_neg, iI_clamp, iI_nat, vin_i, iI_le, iI_lt, iI_eq, mn_i, mx_i, if_true, if_false, if_pos, if_neg, li_0, li_1, li_2, li_3, li_4, li_5, li_6, li_7, li_8, li_9, li_10, li_11, li_12, li_14, li_15, li_16, li_20, li_21, li_24, li_28, li_30, li_31, li_40, li_41, li_42, li_43, li_44, li_45, li_47, li_48, li_49, li_57, li_59, li_60, li_61, li_62, li_63, li_70, li_71, li_76, li_80, li_96, li_97, li_98, li_99, li_100, li_101, li_102, li_103, li_104, li_105, li_106, li_107, li_108, li_109, li_110, li_111, li_112, li_113, li_114, li_115, li_116, li_117, li_118, li_119, li_120, li_128, li_142, li_255, li_320, li_781, li_852, li_999, li_1000, li_2000, li_3000, li_9999, li_12345, li_65536, li_1000000, li_252645135, li_858993459, li_1103515245, li_1431655765]
    have K := s_sign_L p1 (l := g.2.2.2.2.2.2.2.1) (by omega) q 4 0 FU _ _ _ (by omega) (by omega) (show 4 < 4000 by omega) c6.1 m6.1 g6.2.2
    rw [Int.add_zero, Int.sub_zero] at K
    refine so_mono K ?_
    intro o ho
    refine so_mono ho ?_
    rintro p ⟨p1, T', t1, t2, t3⟩
    obtain ⟨h1, h2, h3, h4, h5, h6, h7, h8, h9⟩ := G.mono (show n ≤ n + 1 by omega)
    exact ⟨p1.symm, by omega, ((g.1, g.2.1, g.2.2.1, g.2.2.2.1, g.2.2.2.2.1, g.2.2.2.2.2.1, T', g.2.2.2.2.2.2.2.1 + 4, g.2.2.2.2.2.2.2.2.1, g.2.2.2.2.2.2.2.2.2.1, g.2.2.2.2.2.2.2.2.2.2.1, g.2.2.2.2.2.2.2.2.2.2.2.1, g.2.2.2.2.2.2.2.2.2.2.2.2.1, g.2.2.2.2.2.2.2.2.2.2.2.2.2.1, g.2.2.2.2.2.2.2.2.2.2.2.2.2.2.1, g.2.2.2.2.2.2.2.2.2.2.2.2.2.2.2) : GH), ⟨c1, c2, c3, c4, c5, ⟨t1, rfl⟩, c7, c8, c9⟩, ⟨m1, m2, m3, m4, m5, ⟨t2, p1⟩, m7, m8, m9⟩, h1, h2, h3, h4, h5, ⟨by show 0 ≤ g.2.2.2.2.2.2.2.1 + 4; omega, by show g.2.2.2.2.2.2.2.1 + 4 ≤ 80; omega, t3⟩, h7, h8, h9⟩
  · simp (disch := omega) only [gd_t, so_some, so_bind, so_gd, so_none, Option.bind_some, iI_add, iI_sub, iI_mul, iI_neg, iI_clamp, iI_nat, vin_i, iI_le, iI_lt, iI_eq, mn_i, mx_i, if_true, if_false, if_pos, if_neg, li_0, li_1, li_2, li_3, li_4, li_5, li_6, li_7, li_8, li_9, li_10, li_11, li_12, li_14, li_15, li_16, li_20, li_21, li_24, li_28, li_30, li_31, li_40, li_41, li_42, li_43, li_44, li_45, li_47, li_48, li_49, li_57, li_59, li_60, li_61, li_62, li_63, li_70, li_71, li_76, li_80, li_96, li_97, li_98, li_99, li_100, li_101, li_102, li_103, li_104, li_105, li_106, li_107, li_108, li_109, li_110, li_111, li_112, li_113, li_114, li_115, li_116, li_117, li_118, li_119, li_120, li_128, li_142, li_255, li_320, li_781, li_852, li_999, li_1000, li_2000, li_3000, li_9999, li_12345, li_65536, li_1000000, li_252645135, li_858993459, li_1103515245, li_1431655765]
    exact ⟨(by first | rfl | trivial), R.same ⟨n0.1, hn⟩ G ⟨c1, c2, c3, c4, c5, ⟨c6.1, rfl⟩, c7, c8, c9⟩ ⟨m1, m2, m3, m4, m5, ⟨m6.1, rfl⟩, m7, m8, m9⟩⟩
/-! winter -/
def wfn (W : Int → Int) (c : Int) : Int → Int := fun d => if c = 0 then 0 else W (d % c)
theorem c_inch {W : Int → Int} {c : Int} (c0 : 1 ≤ c) (c1 : c ≤ 40) {a : Nat → Int32} (ha : Arr c a W) {d : Int} (d0 : 0 ≤ d) (d1 : d < 2147483648) : fX10_inchesIn (iI c) a (iI d) = some (iI (wfn W c d)) := by
  have r0 := Int.emod_nonneg d (show c ≠ 0 by omega)
  have r1 := Int.emod_lt_of_pos d (show 0 < c by omega)
  unfold fX10_inchesIn wfn
  rw [iI_rem d0 d1 (by omega) (by omega), if_neg (show ¬ c = 0 by omega)]
  have z : nz (iI c) = true := by
    unfold nz
    simp (disch := omega) only [gd_t, so_some, so_bind, so_gd, so_none, Option.bind_some, iI_add, iI_sub, iI_mul, iI_neg, iI_clamp, iI_nat, vin_i, iI_le, iI_lt, iI_eq, mn_i, mx_i, if_true, if_false, if_pos, if_neg, li_0, li_1, li_2, li_3, li_4, li_5, li_6, li_7, li_8, li_9, li_10, li_11, li_12, li_14, li_15, li_16, li_20, li_21, li_24, li_28, li_30, li_31, li_40, li_41, li_42, li_43, li_44, li_45, li_47, li_48, li_49, li_57, li_59, li_60, li_61, li_62, li_63, li_70, li_71, li_76, li_80, li_96, li_97, li_98, li_99, li_100, li_101, li_102, li_103, li_104, li_105, li_106, li_107, li_108, li_109, li_110, li_111, li_112, li_113, li_114, li_115, li_116, li_117, li_118, li_119, li_120, li_128, li_142, li_255, li_320, li_781, li_852, li_999, li_1000, li_2000, li_3000, li_9999, li_12345, li_65536, li_1000000, li_252645135, li_858993459, li_1103515245, li_1431655765]
    exact decide_eq_true (by omega)
  rw [z]
  simp (disch := omega) only [gd_t, so_some, so_bind, so_gd, so_none, Option.bind_some, iI_add, iI_sub, iI_mul, iI_neg, iI_clamp, iI_nat, vin_i, iI_le, iI_lt, iI_eq, mn_i, mx_i, if_true, if_false, if_pos, if_neg, li_0, li_1, li_2, li_3, li_4, li_5, li_6, li_7, li_8, li_9, li_10, li_11, li_12, li_14, li_15, li_16, li_20, li_21, li_24, li_28, li_30, li_31, li_40, li_41, li_42, li_43, li_44, li_45, li_47, li_48, li_49, li_57, li_59, li_60, li_61, li_62, li_63, li_70, li_71, li_76, li_80, li_96, li_97, li_98, li_99, li_100, li_101, li_102, li_103, li_104, li_105, li_106, li_107, li_108, li_109, li_110, li_111, li_112, li_113, li_114, li_115, li_116, li_117, li_118, li_119, li_120, li_128, li_142, li_255, li_320, li_781, li_852, li_999, li_1000, li_2000, li_3000, li_9999, li_12345, li_65536, li_1000000, li_252645135, li_858993459, li_1103515245, li_1431655765, ha.at]
theorem m_wea {W : Int → Int} {c : Int} (c0 : 1 ≤ c) (c1 : c ≤ 40) {a : Nat → Int32} (ha : Arr c a W) {d : Int} (d0 : 0 ≤ d) (d1 : d < 2147483648) : fX12_weatherOf (iI c) a (iI d) = some (iI (wfn W c d)) := by
  have r0 := Int.emod_nonneg d (show c ≠ 0 by omega)
  have r1 := Int.emod_lt_of_pos d (show 0 < c by omega)
  unfold fX12_weatherOf wfn
  rw [iI_rem d0 d1 (by omega) (by omega), if_neg (show ¬ c = 0 by omega)]
  have z : nz (iI c) = true := by
    unfold nz
    simp (disch := omega) only [gd_t, so_some, so_bind, so_gd, so_none, Option.bind_some, iI_add, iI_sub, iI_mul, iI_neg, iI_clamp, iI_nat, vin_i, iI_le, iI_lt, iI_eq, mn_i, mx_i, if_true, if_false, if_pos, if_neg, li_0, li_1, li_2, li_3, li_4, li_5, li_6, li_7, li_8, li_9, li_10, li_11, li_12, li_14, li_15, li_16, li_20, li_21, li_24, li_28, li_30, li_31, li_40, li_41, li_42, li_43, li_44, li_45, li_47, li_48, li_49, li_57, li_59, li_60, li_61, li_62, li_63, li_70, li_71, li_76, li_80, li_96, li_97, li_98, li_99, li_100, li_101, li_102, li_103, li_104, li_105, li_106, li_107, li_108, li_109, li_110, li_111, li_112, li_113, li_114, li_115, li_116, li_117, li_118, li_119, li_120, li_128, li_142, li_255, li_320, li_781, li_852, li_999, li_1000, li_2000, li_3000, li_9999, li_12345, li_65536, li_1000000, li_252645135, li_858993459, li_1103515245, li_1431655765]
    exact decide_eq_true (by omega)
  rw [z]
  simp (disch := omega) only [gd_t, so_some, so_bind, so_gd, so_none, Option.bind_some, iI_add, iI_sub, iI_mul, iI_neg, iI_clamp, iI_nat, vin_i, iI_le, iI_lt, iI_eq, mn_i, mx_i, if_true, if_false, if_pos, if_neg, li_0, li_1, li_2, li_3, li_4, li_5, li_6, li_7, li_8, li_9, li_10, li_11, li_12, li_14, li_15, li_16, li_20, li_21, li_24, li_28, li_30, li_31, li_40, li_41, li_42, li_43, li_44, li_45, li_47, li_48, li_49, li_57, li_59, li_60, li_61, li_62, li_63, li_70, li_71, li_76, li_80, li_96, li_97, li_98, li_99, li_100, li_101, li_102, li_103, li_104, li_105, li_106, li_107, li_108, li_109, li_110, li_111, li_112, li_113, li_114, li_115, li_116, li_117, li_118, li_119, li_120, li_128, li_142, li_255, li_320, li_781, li_852, li_999, li_1000, li_2000, li_3000, li_9999, li_12345, li_65536, li_1000000, li_252645135, li_858993459, li_1103515245, li_1431655765, ha.at]
def Ew (E : EN) (w : Int → Int) : EN := (E.1, E.2.1, E.2.2.1, w, E.2.2.2.2)
theorem EnG.w {E : EN} (G : EnG E) {w : Int → Int} (hw : ∀ d, -9 ≤ w d ∧ w d ≤ 9) : EnG (Ew E w) := ⟨G.1, G.2.1, G.2.2.1, hw, G.2.2.2.2⟩
/-- a new weather -/
theorem R.wea {n : Int} {g : GH} {σ' : CS} {τ' : MS} (n0 : 0 ≤ n ∧ n < 1000) (G : RG n g) {w : Int → Int} {l : Int} (hw : ∀ d, -9 ≤ w d ∧ w d ≤ 9) (l0 : 0 ≤ l) (l1 : l ≤ 40) (c : RC ((Ew g.1 w, g.2.1, g.2.2.1, l, g.2.2.2.2.1, g.2.2.2.2.2.1, g.2.2.2.2.2.2.1, g.2.2.2.2.2.2.2.1, g.2.2.2.2.2.2.2.2.1, g.2.2.2.2.2.2.2.2.2.1, g.2.2.2.2.2.2.2.2.2.2.1, g.2.2.2.2.2.2.2.2.2.2.2.1, g.2.2.2.2.2.2.2.2.2.2.2.2.1, g.2.2.2.2.2.2.2.2.2.2.2.2.2.1, g.2.2.2.2.2.2.2.2.2.2.2.2.2.2.1, g.2.2.2.2.2.2.2.2.2.2.2.2.2.2.2) : GH) σ') (m : RM ((Ew g.1 w, g.2.1, g.2.2.1, l, g.2.2.2.2.1, g.2.2.2.2.2.1, g.2.2.2.2.2.2.1, g.2.2.2.2.2.2.2.1, g.2.2.2.2.2.2.2.2.1, g.2.2.2.2.2.2.2.2.2.1, g.2.2.2.2.2.2.2.2.2.2.1, g.2.2.2.2.2.2.2.2.2.2.2.1, g.2.2.2.2.2.2.2.2.2.2.2.2.1, g.2.2.2.2.2.2.2.2.2.2.2.2.2.1, g.2.2.2.2.2.2.2.2.2.2.2.2.2.2.1, g.2.2.2.2.2.2.2.2.2.2.2.2.2.2.2) : GH) τ') : R (n + 1) σ' τ' := by
  obtain ⟨h1, h2, h3, h4, h5, h6, h7, h8, h9⟩ := G.mono (show n ≤ n + 1 by omega)
  exact ⟨by omega, _, c, m, h1.w hw, h2, h3, ⟨l0, l1⟩, h5, h6, h7, h8, h9⟩
theorem s_win_L {c : Int} (c1 : c ≤ 40) : ∀ (m : Nat) (k : Int) (f : Nat) (v3 v4 : Int32) (a b : Nat → Int32) (W : Int → Int), 0 ≤ k → k + m = c → m < f → Arr k a W → Arr k b W → (∀ i, 0 ≤ i → i < k → -9 ≤ W i ∧ W i ≤ 9) →
    So (fX10_draw_L30 (iI c) f v3 v4 (iI k) a) (fun o => So (fX12_winter_L25 (iI c) f v3 v4 (iI k) b) (fun p => o.1 = p.1 ∧ ∃ W', Arr c o.2 W' ∧ Arr c p.2 W' ∧ ∀ i, 0 ≤ i → i < c → -9 ≤ W' i ∧ W' i ≤ 9))
  | 0, k, f + 1, v3, v4, a, b, W, k0, hk, hf, ha, hb, hW => by
    have : k = c := by omega
    subst this
    rw [fX10_draw_L30, fX12_winter_L25]
    simp (disch := omega) only [gd_t, so_some, so_bind, so_gd, so_none, Option.bind_some, iI_add, iI_sub, iI_mul, iI_neg, iI_clamp, iI_nat, vin_i, iI_le, iI_lt, iI_eq, mn_i, mx_i, if_true, if_false, if_pos, if_neg, li_0, li_1, li_2, li_3, li_4, li_5, li_6, li_7, li_8, li_9, li_10, li_11, li_12, li_14, li_15, li_16, li_20, li_21, li_24, li_28, li_30, li_31, li_40, li_41, li_42, li_43, li_44, li_45, li_47, li_48, li_49, li_57, li_59, li_60, li_61, li_62, li_63, li_70, li_71, li_76, li_80, li_96, li_97, li_98, li_99, li_100, li_101, li_102, li_103, li_104, li_105, li_106, li_107, li_108, li_109, li_110, li_111, li_112, li_113, li_114, li_115, li_116, li_117, li_118, li_119, li_120, li_128, li_142, li_255, li_320, li_781, li_852, li_999, li_1000, li_2000, li_3000, li_9999, li_12345, li_65536, li_1000000, li_252645135, li_858993459, li_1103515245, li_1431655765]
    exact ⟨trivial, W, ha, hb, hW⟩
  | m + 1, k, f + 1, v3, v4, a, b, W, k0, hk, hf, ha, hb, hW => by
    obtain ⟨X, hX, x0, x1⟩ := ush_16 (v3 * 1103515245 + 12345)
    have hR : rem (iI X) (iI 16) = iI (X % 16) := iI_rem x0 (by omega) (by omega) (by omega)
    have key : ∀ (v : Int), -9 ≤ v → v ≤ 9 → ∀ w3 w4 : Int32, So (fX10_draw_L30 (iI c) f w3 w4 (iI (k + 1)) (upd a k.toNat (iI v))) (fun o => So (fX12_winter_L25 (iI c) f w3 w4 (iI (k + 1)) (upd b k.toNat (iI v))) (fun p => o.1 = p.1 ∧ ∃ W', Arr c o.2 W' ∧ Arr c p.2 W' ∧ ∀ i, 0 ≤ i → i < c → -9 ≤ W' i ∧ W' i ≤ 9)) := by
      intro v v0 v1 w3 w4
      have e1 : ∀ d : Nat → Int32, Arr k d W → Arr (k + 1) (upd d k.toNat (iI v)) (upI W k v) := fun d hd => by
        have := arr_ext (F := upI W k v) (hd.congr (fun x x0 x1 => (upI_o _ (by omega)).symm)) k0
        rw [upI_s] at this
        exact this
      exact s_win_L c1 m (k + 1) f w3 w4 _ _ (upI W k v) (by omega) (by omega) (by omega) (e1 a ha) (e1 b hb) (fun i i0 i1 => by
        by_cases q : i = k
        · rw [q, upI_s]; omega
        · rw [upI_o _ q]; exact hW i i0 (by omega))
    have us : ∀ d : Nat → Int32, ∀ v, upd d k.toNat v k.toNat = v := fun d v => if_pos rfl
    rw [fX10_draw_L30, fX12_winter_L25]
    simp only [li_16, hX, hR]
    unfold fX10_draw_J80 fX12_winter_J72
    by_cases q : 10 ≤ X % 16
    · by_cases q2 : 9 - X % 16 ≤ 0
      · simp (disch := omega) only [gd_t, so_some, so_bind, so_gd, so_none, Option.bind_some, iI_add, iI_sub, iI_mul, iI_neg, iI_clamp, iI_nat, vin_i, iI_le, iI_lt, iI_eq, mn_i, mx_i, if_true, if_false, if_pos, if_neg, li_0, li_1, li_2, li_3, li_4, li_5, li_6, li_7, li_8, li_9, li_10, li_11, li_12, li_14, li_15, li_16, li_20, li_21, li_24, li_28, li_30, li_31, li_40, li_41, li_42, li_43, li_44, li_45, li_47, li_48, li_49, li_57, li_59, li_60, li_61, li_62, li_63, li_70, li_71, li_76, li_80, li_96, li_97, li_98, li_99, li_100, li_101, li_102, li_103, li_104, li_105, li_106, li_107, li_108, li_109, li_110, li_111, li_112, li_113, li_114, li_115, li_116, li_117, li_118, li_119, li_120, li_128, li_142, li_255, li_320, li_781, li_852, li_999, li_1000, li_2000, li_3000, li_9999, li_12345, li_65536, li_1000000, li_252645135, li_858993459, li_1103515245, li_1431655765, us]
        rw [show v4 + iI 0 = v4 from Int32.add_zero v4]
        exact key _ (by omega) (by omega) _ _
      · omega
    · by_cases q2 : X % 16 ≤ 0
      · simp (disch := omega) only [gd_t, so_some, so_bind, so_gd, so_none, Option.bind_some, iI_add, iI_sub, iI_mul, iI_neg, iI_clamp, iI_nat, vin_i, iI_le, iI_lt, iI_eq, mn_i, mx_i, if_true, if_false, if_pos, if_neg, li_0, li_1, li_2, li_3, li_4, li_5, li_6, li_7, li_8, li_9, li_10, li_11, li_12, li_14, li_15, li_16, li_20, li_21, li_24, li_28, li_30, li_31, li_40, li_41, li_42, li_43, li_44, li_45, li_47, li_48, li_49, li_57, li_59, li_60, li_61, li_62, li_63, li_70, li_71, li_76, li_80, li_96, li_97, li_98, li_99, li_100, li_101, li_102, li_103, li_104, li_105, li_106, li_107, li_108, li_109, li_110, li_111, li_112, li_113, li_114, li_115, li_116, li_117, li_118, li_119, li_120, li_128, li_142, li_255, li_320, li_781, li_852, li_999, li_1000, li_2000, li_3000, li_9999, li_12345, li_65536, li_1000000, li_252645135, li_858993459, li_1103515245, li_1431655765, us]
        rw [show v4 + iI 0 = v4 from Int32.add_zero v4]
        exact key _ (by omega) (by omega) _ _
      · simp (disch := omega) only [gd_t, so_some, so_bind, so_gd, so_none, Option.bind_some, iI_add, iI_sub, iI_mul, iI_neg, iI_clamp, iI_nat, vin_i, iI_le, iI_lt, iI_eq, mn_i, mx_i, if_true, if_false, if_pos, if_neg, li_0, li_1, li_2, li_3, li_4, li_5, li_6, li_7, li_8, li_9, li_10, li_11, li_12, li_14, li_15, li_16, li_20, li_21, li_24, li_28, li_30, li_31, li_40, li_41, li_42, li_43, li_44, li_45, li_47, li_48, li_49, li_57, li_59, li_60, li_61, li_62, li_63, li_70, li_71, li_76, li_80, li_96, li_97, li_98, li_99, li_100, li_101, li_102, li_103, li_104, li_105, li_106, li_107, li_108, li_109, li_110, li_111, li_112, li_113, li_114, li_115, li_116, li_117, li_118, li_119, li_120, li_128, li_142, li_255, li_320, li_781, li_852, li_999, li_1000, li_2000, li_3000, li_9999, li_12345, li_65536, li_1000000, li_252645135, li_858993459, li_1103515245, li_1431655765, us]
        exact key _ (by omega) (by omega) _ _
theorem s_winter {n : Int} {σ : CS} {τ : MS} (h : R n σ τ) (hn : n < 1000) (p1 p2 : Int32) : Ok n (x_winter σ p1 p2) (y_winter τ p1 p2) := by
  obtain ⟨n0, g, c, m, G⟩ := h
  obtain ⟨P, rfl, b0, b1⟩ := iI_of p2
  obtain ⟨c1, c2, c3, c4, c5, c6, c7, c8, c9⟩ := c
  obtain ⟨m1, m2, m3, m4, m5, m6, m7, m8, m9⟩ := m
  have e := G.1.1
  have hS := G.2.2.1
  have a7 := hS.2.2
  unfold Ok x_winter y_winter fX11_winter fX12_winter fX10_draw
  by_cases q : 1 ≤ P ∧ P ≤ 40
  · have z1 := in_t (a := P) (b := 1) (c := 40) (by omega) (by omega) q
    have z2 := win_t (a := P) (b := 1) (c := 40) (by omega) (by omega) q
    have e1 : mx (iI 1) (mn (iI P) (iI 40)) = iI P := by
      simp (disch := omega) only [gd_t, so_some, so_bind, so_gd, so_none, Option.bind_some, iI_add, iI_sub, iI_mul, iI_neg, iI_clamp, iI_nat, vin_i, iI_le, iI_lt, iI_eq, mn_i, mx_i, if_true, if_false, if_pos, if_neg, li_0, li_1, li_2, li_3, li_4, li_5, li_6, li_7, li_8, li_9, li_10, li_11, li_12, li_14, li_15, li_16, li_20, li_21, li_24, li_28, li_30, li_31, li_40, li_41, li_42, li_43, li_44, li_45, li_47, li_48, li_49, li_57, li_59, li_60, li_61, li_62, li_63, li_70, li_71, li_76, li_80, li_96, li_97, li_98, li_99, li_100, li_101, li_102, li_103, li_104, li_105, li_106, li_107, li_108, li_109, li_110, li_111, li_112, li_113, li_114, li_115, li_116, li_117, li_118, li_119, li_120, li_128, li_142, li_255, li_320, li_781, li_852, li_999, li_1000, li_2000, li_3000, li_9999, li_12345, li_65536, li_1000000, li_252645135, li_858993459, li_1103515245, li_1431655765]
      rw [show max 1 (min P 40) = P by omega]
    simp only [li_1, li_40, li_0, z1, z2, e1, Option.bind_some]
    simp (disch := omega) only [gd_t, so_some, so_bind, so_gd, so_none, Option.bind_some, iI_add, iI_sub, iI_mul, iI_neg, iI_clamp, iI_nat, vin_i, iI_le, iI_lt, iI_eq, mn_i, mx_i, if_true, if_false, if_pos, if_neg, li_0, li_1, li_2, li_3, li_4, li_5, li_6, li_7, li_8, li_9, li_10, li_11, li_12, li_14, li_15, li_16, li_20, li_21, li_24, li_28, li_30, li_31, li_40, li_41, li_42, li_43, li_44, li_45, li_47, li_48, li_49, li_57, li_59, li_60, li_61, li_62, li_63, li_70, li_71, li_76, li_80, li_96, li_97, li_98, li_99, li_100, li_101, li_102, li_103, li_104, li_105, li_106, li_107, li_108, li_109, li_110, li_111, li_112, li_113, li_114, li_115, li_116, li_117, li_118, li_119, li_120, li_128, li_142, li_255, li_320, li_781, li_852, li_999, li_1000, li_2000, li_3000, li_9999, li_12345, li_65536, li_1000000, li_252645135, li_858993459, li_1103515245, li_1431655765]
    refine so_mono (s_win_L q.2 P.toNat 0 FU p1 (iI 0) _ (τ.2.1 23) (fun _ => 0) (by omega) (by omega) (show _ < 4000 by omega) (fun x _ _ => by omega) (fun x _ _ => by omega) (fun x _ _ => by omega)) ?_
    intro o ho
    refine so_mono ho ?_
    rintro p ⟨p1, W, w1, w2, w3⟩
    refine ⟨p1, R.wea ⟨n0.1, hn⟩ G (w := wfn W P) (l := P) (fun d => ?_) (by omega) q.2 ⟨⟨c1.1, c1.2.1, c1.2.2.1, fun d d0 d1 => c_inch q.1 q.2 w1 d0 d1, c1.2.2.2.2⟩, c2, c3, rfl, c5, c6, c7, c8, c9⟩ ⟨⟨m1.1, m1.2.1, m1.2.2.1, fun d d0 d1 => m_wea q.1 q.2 w2 d0 d1, m1.2.2.2.2⟩, m2, m3, rfl, m5, m6, m7, m8, m9⟩⟩
    unfold wfn
    rw [if_neg (by omega)]
    exact w3 _ (Int.emod_nonneg d (by omega)) (Int.emod_lt_of_pos d (by omega))
  · have z1 := in_f (a := P) (b := 1) (c := 40) (by omega) (by omega) (by omega) (by omega) (by omega) (by omega) q
    have z2 := win_f (a := P) (b := 1) (c := 40) (by omega) (by omega) (by omega) (by omega) (by omega) (by omega) q
    simp only [li_1, li_40, li_0, z1, z2, Option.bind_some]
    simp (disch := omega) only [gd_t, so_some, so_bind, so_gd, so_none, Option.bind_some, iI_add, iI_sub, iI_mul, iI_neg, iI_clamp, iI_nat, vin_i, iI_le, iI_lt, iI_eq, mn_i, mx_i, if_true, if_false, if_pos, if_neg, li_0, li_1, li_2, li_3, li_4, li_5, li_6, li_7, li_8, li_9, li_10, li_11, li_12, li_14, li_15, li_16, li_20, li_21, li_24, li_28, li_30, li_31, li_40, li_41, li_42, li_43, li_44, li_45, li_47, li_48, li_49, li_57, li_59, li_60, li_61, li_62, li_63, li_70, li_71, li_76, li_80, li_96, li_97, li_98, li_99, li_100, li_101, li_102, li_103, li_104, li_105, li_106, li_107, li_108, li_109, li_110, li_111, li_112, li_113, li_114, li_115, li_116, li_117, li_118, li_119, li_120, li_128, li_142, li_255, li_320, li_781, li_852, li_999, li_1000, li_2000, li_3000, li_9999, li_12345, li_65536, li_1000000, li_252645135, li_858993459, li_1103515245, li_1431655765]
    exact ⟨(by first | rfl | trivial), R.same ⟨n0.1, hn⟩ G ⟨c1, c2, c3, c4, c5, c6, c7, c8, c9⟩ ⟨m1, m2, m3, m4, m5, m6, m7, m8, m9⟩⟩
/-! sheet -/
theorem en_i {P a d k : Int} (p0 : 0 ≤ P) (p1 : P ≤ 2) : ∃ X : Int, -2147483648 ≤ X ∧ X < 2147483648 ∧ fX11_entryOf (iI P) (iI (a + k * d)) = some (iI X) ∧ ∀ (rc : Int32 → Int32 → Int32 → (Nat → Int32) → Option (Int32 × (Nat → Int32))) (p2 p4 v5 v7 : Int32) (b : Nat → Int32),
    (if iI P = 0 then fX12_sheet_J77 rc (iI P) p2 p4 v5 (iI (a + k * d)) v7 ((iI (a + k * d)).toInt8.toInt32) b else if iI P = 1 then fX12_sheet_J77 rc (iI P) p2 p4 v5 (iI (a + k * d)) v7 ((iI (a + k * d)).toInt16.toInt32) b else fX12_sheet_J77 rc (iI P) p2 p4 v5 (iI (a + k * d)) v7 (iI (a + k * d)) b)
      = fX12_sheet_J77 rc (iI P) p2 p4 v5 (iI (a + k * d)) v7 (iI X) b := by
  unfold fX11_entryOf
  have e : P = 0 ∨ P = 1 ∨ P = 2 := by omega
  rcases e with rfl | rfl | rfl
  · obtain ⟨X, hX, x0, x1⟩ := iI_of ((iI (a + k * d)).toInt8.toInt32)
    refine ⟨X, x0, x1, ?_, fun rc p2 p4 v5 v7 b => ?_⟩
    · rw [if_pos (by decide), hX]
    · rw [if_pos (by decide), hX]
  · obtain ⟨X, hX, x0, x1⟩ := iI_of ((iI (a + k * d)).toInt16.toInt32)
    refine ⟨X, x0, x1, ?_, fun rc p2 p4 v5 v7 b => ?_⟩
    · rw [if_neg (by decide), if_pos (by decide), hX]
    · rw [if_neg (by decide), if_pos (by decide), hX]
  · obtain ⟨X, hX, x0, x1⟩ := iI_of (iI (a + k * d))
    refine ⟨X, x0, x1, ?_, fun rc p2 p4 v5 v7 b => ?_⟩
    · rw [if_neg (by decide), if_neg (by decide), hX]
    · rw [if_neg (by decide), if_neg (by decide), ← hX]
theorem s_sheet_L {h n P Q a d : Int} (h0 : 0 ≤ h) (h7 : h ≤ 7) (p0 : 0 ≤ P) (p1 : P ≤ 2) (q0 : 0 ≤ Q) (q1 : Q ≤ 14) {B : Int → Int} : ∀ (m : Nat) (k s : Int) (f : Nat) (snow b : Nat → Int32) (A : Int → Int), 0 ≤ k → k + m = 2 * h → m < f → SG h n A → (∀ i, 14 ≤ i → A i = B i) → Arr 14 snow A → Arr 71 b A →
    So (fX11_sheet_L52 (iI h) (iI P) (iI Q) (iI a) (iI d) f (iI s) (iI k) snow) (fun o => So (fX12_sheet_L43 (iI h) (iI P) (iI Q) (iI d) f (iI s) (iI (a + k * d)) (iI k) b) (fun p => o.1 = p.1 ∧ ∃ A', SG h n A' ∧ (∀ i, 14 ≤ i → A' i = B i) ∧ Arr 14 o.2 A' ∧ Arr 71 p.2 A'))
  | 0, k, s, f + 1, snow, b, A, k0, hk, hf, hS, hB, hs, hb => by
    rw [fX11_sheet_L52, fX12_sheet_L43]
    simp (disch := omega) only [gd_t, so_some, so_bind, so_gd, so_none, Option.bind_some, iI_add, iI_sub, iI_mul, iI_neg, iI_clamp, iI_nat, vin_i, iI_le, iI_lt, iI_eq, mn_i, mx_i, if_true, if_false, if_pos, if_neg, li_0, li_1, li_2, li_3, li_4, li_5, li_6, li_7, li_8, li_9, li_10, li_11, li_12, li_14, li_15, li_16, li_20, li_21, li_24, li_28, li_30, li_31, li_40, li_41, li_42, li_43, li_44, li_45, li_47, li_48, li_49, li_57, li_59, li_60, li_61, li_62, li_63, li_70, li_71, li_76, li_80, li_96, li_97, li_98, li_99, li_100, li_101, li_102, li_103, li_104, li_105, li_106, li_107, li_108, li_109, li_110, li_111, li_112, li_113, li_114, li_115, li_116, li_117, li_118, li_119, li_120, li_128, li_142, li_255, li_320, li_781, li_852, li_999, li_1000, li_2000, li_3000, li_9999, li_12345, li_65536, li_1000000, li_252645135, li_858993459, li_1103515245, li_1431655765]
    exact ⟨trivial, A, hS, hB, hs, hb⟩
  | m + 1, k, s, f + 1, snow, b, A, k0, hk, hf, hS, hB, hs, hb => by
    obtain ⟨X, x0, x1, x2, x3⟩ := en_i (a := a) (d := d) (k := k) p0 p1
    have key : ∀ v, 0 ≤ v → v ≤ 999 → So (fX11_sheet_L52 (iI h) (iI P) (iI Q) (iI a) (iI d) f (iI (s + v)) (iI (k + 1)) (upd snow k.toNat (iI v))) (fun o => So (fX12_sheet_L43 (iI h) (iI P) (iI Q) (iI d) f (iI (s + v)) (iI (a + k * d + d)) (iI (k + 1)) (upd b k.toNat (iI v))) (fun p => o.1 = p.1 ∧ ∃ A', SG h n A' ∧ (∀ i, 14 ≤ i → A' i = B i) ∧ Arr 14 o.2 A' ∧ Arr 71 p.2 A')) := by
      intro v v0 v1
      rw [show a + k * d + d = a + (k + 1) * d by rw [Int.add_mul, Int.one_mul]; omega]
      refine s_sheet_L h0 h7 p0 p1 q0 q1 m (k + 1) (s + v) f _ _ (upI A k v) (by omega) (by omega) (by omega) ⟨hS.1.up (fun _ _ => by omega) (fun _ _ => by omega) (fun _ => by omega), hS.2.1.up (by omega) (by omega) (by omega) h7, ?_⟩ (fun i hi => ?_) (hs.up v k0) (hb.up v k0)
      · rw [upI_o _ (by omega)]; exact hS.2.2
      · rw [upI_o _ (by omega)]; exact hB i hi
    have us : ∀ d : Nat → Int32, ∀ v, upd d k.toNat v k.toNat = v := fun d v => if_pos rfl
    rw [fX11_sheet_L52, fX12_sheet_L43, x3]
    simp only [iI_add, iI_mul, x2]
    unfold fX11_sheet_J87 fX12_sheet_J77 fX12_sheet_J96 fX12_sheet_J112
    by_cases q : Q ≤ k
    · simp (disch := omega) only [gd_t, so_some, so_bind, so_gd, so_none, Option.bind_some, iI_add, iI_sub, iI_mul, iI_neg, iI_clamp, iI_nat, vin_i, iI_le, iI_lt, iI_eq, mn_i, mx_i, if_true, if_false, if_pos, if_neg, li_0, li_1, li_2, li_3, li_4, li_5, li_6, li_7, li_8, li_9, li_10, li_11, li_12, li_14, li_15, li_16, li_20, li_21, li_24, li_28, li_30, li_31, li_40, li_41, li_42, li_43, li_44, li_45, li_47, li_48, li_49, li_57, li_59, li_60, li_61, li_62, li_63, li_70, li_71, li_76, li_80, li_96, li_97, li_98, li_99, li_100, li_101, li_102, li_103, li_104, li_105, li_106, li_107, li_108, li_109, li_110, li_111, li_112, li_113, li_114, li_115, li_116, li_117, li_118, li_119, li_120, li_128, li_142, li_255, li_320, li_781, li_852, li_999, li_1000, li_2000, li_3000, li_9999, li_12345, li_65536, li_1000000, li_252645135, li_858993459, li_1103515245, li_1431655765, us]
      rw [show max (0 : Int) (min 999 0) = 0 from rfl]
      exact key 0 (by omega) (by omega)
    · simp (disch := omega) only [gd_t, so_some, so_bind, so_gd, so_none, Option.bind_some, iI_add, iI_sub, iI_mul, iI_neg, iI_clamp, iI_nat, vin_i, iI_le, iI_lt, iI_eq, mn_i, mx_i, if_true, if_false, if_pos, if_neg, li_0, li_1, li_2, li_3, li_4, li_5, li_6, li_7, li_8, li_9, li_10, li_11, li_12, li_14, li_15, li_16, li_20, li_21, li_24, li_28, li_30, li_31, li_40, li_41, li_42, li_43, li_44, li_45, li_47, li_48, li_49, li_57, li_59, li_60, li_61, li_62, li_63, li_70, li_71, li_76, li_80, li_96, li_97, li_98, li_99, li_100, li_101, li_102, li_103, li_104, li_105, li_106, li_107, li_108, li_109, li_110, li_111, li_112, li_113, li_114, li_115, li_116, li_117, li_118, li_119, li_120, li_128, li_142, li_255, li_320, li_781, li_852, li_999, li_1000, li_2000, li_3000, li_9999, li_12345, li_65536, li_1000000, li_252645135, li_858993459, li_1103515245, li_1431655765, us]
      exact key _ (by omega) (by omega)
theorem m_sheet3_L {h n d : Int} (h0 : 0 ≤ h) (h7 : h ≤ 7) {B : Int → Int} {p2 : Int32} : ∀ (m : Nat) (k : Int) (v6 : Int32) (f : Nat) (b : Nat → Int32) (A : Int → Int), 0 ≤ k → k + m = 2 * h → m < f → SG h n A → (∀ i, 0 ≤ i → i < k → A i = 0) → (∀ i, 14 ≤ i → A i = B i) → Arr 71 b A →
    So (fX12_sheet_L43 (iI h) (iI 3) p2 (iI d) f (iI 0) v6 (iI k) b) (fun p => ∃ A', SG h n A' ∧ (∀ i, 0 ≤ i → i < 2 * h → A' i = 0) ∧ (∀ i, 14 ≤ i → A' i = B i) ∧ Arr 71 p.2 A')
  | 0, k, v6, f + 1, b, A, k0, hk, hf, hS, hZ, hB, hb => by
    rw [fX12_sheet_L43]
    simp (disch := omega) only [gd_t, so_some, so_bind, so_gd, so_none, Option.bind_some, iI_add, iI_sub, iI_mul, iI_neg, iI_clamp, iI_nat, vin_i, iI_le, iI_lt, iI_eq, mn_i, mx_i, if_true, if_false, if_pos, if_neg, li_0, li_1, li_2, li_3, li_4, li_5, li_6, li_7, li_8, li_9, li_10, li_11, li_12, li_14, li_15, li_16, li_20, li_21, li_24, li_28, li_30, li_31, li_40, li_41, li_42, li_43, li_44, li_45, li_47, li_48, li_49, li_57, li_59, li_60, li_61, li_62, li_63, li_70, li_71, li_76, li_80, li_96, li_97, li_98, li_99, li_100, li_101, li_102, li_103, li_104, li_105, li_106, li_107, li_108, li_109, li_110, li_111, li_112, li_113, li_114, li_115, li_116, li_117, li_118, li_119, li_120, li_128, li_142, li_255, li_320, li_781, li_852, li_999, li_1000, li_2000, li_3000, li_9999, li_12345, li_65536, li_1000000, li_252645135, li_858993459, li_1103515245, li_1431655765]
    exact ⟨A, hS, fun i i0 i1 => hZ i i0 (by omega), hB, hb⟩
  | m + 1, k, v6, f + 1, b, A, k0, hk, hf, hS, hZ, hB, hb => by
    have us : ∀ d : Nat → Int32, ∀ v, upd d k.toNat v k.toNat = v := fun d v => if_pos rfl
    rw [fX12_sheet_L43]
    unfold fX12_sheet_J77 fX12_sheet_J96 fX12_sheet_J112
    simp (disch := omega) only [gd_t, so_some, so_bind, so_gd, so_none, Option.bind_some, iI_add, iI_sub, iI_mul, iI_neg, iI_clamp, iI_nat, vin_i, iI_le, iI_lt, iI_eq, mn_i, mx_i, if_true, if_false, if_pos, if_neg, li_0, li_1, li_2, li_3, li_4, li_5, li_6, li_7, li_8, li_9, li_10, li_11, li_12, li_14, li_15, li_16, li_20, li_21, li_24, li_28, li_30, li_31, li_40, li_41, li_42, li_43, li_44, li_45, li_47, li_48, li_49, li_57, li_59, li_60, li_61, li_62, li_63, li_70, li_71, li_76, li_80, li_96, li_97, li_98, li_99, li_100, li_101, li_102, li_103, li_104, li_105, li_106, li_107, li_108, li_109, li_110, li_111, li_112, li_113, li_114, li_115, li_116, li_117, li_118, li_119, li_120, li_128, li_142, li_255, li_320, li_781, li_852, li_999, li_1000, li_2000, li_3000, li_9999, li_12345, li_65536, li_1000000, li_252645135, li_858993459, li_1103515245, li_1431655765, us]
    refine m_sheet3_L h0 h7 m (k + 1) _ f _ (upI A k 0) (by omega) (by omega) (by omega) ⟨hS.1.up (fun _ _ => by omega) (fun _ _ => by omega) (fun _ => by omega), hS.2.1.up (by omega) (by omega) (by omega) h7, ?_⟩ (fun i i0 i1 => ?_) (fun i hi => ?_) (hb.up 0 k0)
    · rw [upI_o _ (by omega)]; exact hS.2.2
    · by_cases q : i = k
      · rw [q, upI_s]
      · rw [upI_o _ q]; exact hZ i i0 (by omega)
    · rw [upI_o _ (by omega)]; exact hB i hi
theorem s_sheet {n : Int} {σ : CS} {τ : MS} (h : R n σ τ) (hn : n < 1000) (p1 p2 p3 p4 : Int32) : Ok n (x_sheet σ p1 p2 p3 p4) (y_sheet τ p1 p2 p3 p4) := by
  obtain ⟨n0, g, c, m, G⟩ := h
  obtain ⟨P, rfl, b0, b1⟩ := iI_of p1
  obtain ⟨Q, rfl, b2, b3⟩ := iI_of p2
  obtain ⟨a, rfl, b4, b5⟩ := iI_of p3
  obtain ⟨d, rfl, b6, b7⟩ := iI_of p4
  obtain ⟨c1, c2, c3, c4, c5, c6, c7, c8, c9⟩ := c
  obtain ⟨m1, m2, m3, m4, m5, m6, m7, m8, m9⟩ := m
  have e := G.1.1
  have hS := G.2.2.1
  have a7 := hS.2.2
  unfold Ok x_sheet y_sheet fX11_sheet fX12_sheet
  rw [c1.1, m1.1]
  by_cases q : 0 ≤ P ∧ P ≤ 3
  · have z1 := in_t (a := P) (b := 0) (c := 3) (by omega) (by omega) q
    have z2 := win_t (a := P) (b := 0) (c := 3) (by omega) (by omega) q
    simp only [li_0, li_3, z1, z2, Option.bind_some]
    by_cases q14 : Q ≤ 14
    · by_cases q3 : P = 3
      · subst q3
        simp (disch := omega) only [gd_t, so_some, so_bind, so_gd, so_none, Option.bind_some, iI_add, iI_sub, iI_mul, iI_neg, iI_clamp, iI_nat, vin_i, iI_le, iI_lt, iI_eq, mn_i, mx_i, if_true, if_false, if_pos, if_neg, li_0, li_1, li_2, li_3, li_4, li_5, li_6, li_7, li_8, li_9, li_10, li_11, li_12, li_14, li_15, li_16, li_20, li_21, li_24, li_28, li_30, li_31, li_40, li_41, li_42, li_43, li_44, li_45, li_47, li_48, li_49, li_57, li_59, li_60, li_61, li_62, li_63, li_70, li_71, li_76, li_80, li_96, li_97, li_98, li_99, li_100, li_101, li_102, li_103, li_104, li_105, li_106, li_107, li_108, li_109, li_110, li_111, li_112, li_113, li_114, li_115, li_116, li_117, li_118, li_119, li_120, li_128, li_142, li_255, li_320, li_781, li_852, li_999, li_1000, li_2000, li_3000, li_9999, li_12345, li_65536, li_1000000, li_252645135, li_858993459, li_1103515245, li_1431655765]
        refine so_mono (t_fill (n := 14) (by omega) 0 _) ?_
        intro o ho
        refine so_mono (m_sheet3_L e.1 e.2 (2 * g.1.1).toNat 0 _ FU _ _ (by omega) (by omega) (show _ < 4000 by omega) (hS.mono (show n ≤ n + 1 by omega)) (fun i _ _ => by omega) (fun i _ => rfl) m3) ?_
        rintro p ⟨A', a1, a2, a3, a4⟩
        obtain ⟨h1, h2, h3, h4, h5, h6, h7, h8, h9⟩ := G.mono (show n ≤ n + 1 by omega)
        exact ⟨(by first | rfl | trivial), by omega, ((g.1, g.2.1, A', g.2.2.2.1, g.2.2.2.2.1, g.2.2.2.2.2.1, g.2.2.2.2.2.2.1, g.2.2.2.2.2.2.2.1, g.2.2.2.2.2.2.2.2.1, g.2.2.2.2.2.2.2.2.2.1, g.2.2.2.2.2.2.2.2.2.2.1, g.2.2.2.2.2.2.2.2.2.2.2.1, g.2.2.2.2.2.2.2.2.2.2.2.2.1, g.2.2.2.2.2.2.2.2.2.2.2.2.2.1, g.2.2.2.2.2.2.2.2.2.2.2.2.2.2.1, g.2.2.2.2.2.2.2.2.2.2.2.2.2.2.2) : GH), ⟨c1, c2, stc_snow c3 (ho.congr (fun x x0 x1 => by
          by_cases w : x < 2 * g.1.1
          · exact (a2 x x0 w).symm
          · exact (a1.2.1.1 x (by omega) x1).symm)) a3, c4, c5, c6, c7, c8, c9⟩, ⟨m1, m2, a4, m4, m5, m6, m7, m8, m9⟩, h1, h2, a1, h4, h5, h6, h7, h8, h9⟩
      · by_cases q0 : 0 ≤ Q
        · simp (disch := omega) only [gd_t, so_some, so_bind, so_gd, so_none, Option.bind_some, iI_add, iI_sub, iI_mul, iI_neg, iI_clamp, iI_nat, vin_i, iI_le, iI_lt, iI_eq, mn_i, mx_i, if_true, if_false, if_pos, if_neg, li_0, li_1, li_2, li_3, li_4, li_5, li_6, li_7, li_8, li_9, li_10, li_11, li_12, li_14, li_15, li_16, li_20, li_21, li_24, li_28, li_30, li_31, li_40, li_41, li_42, li_43, li_44, li_45, li_47, li_48, li_49, li_57, li_59, li_60, li_61, li_62, li_63, li_70, li_71, li_76, li_80, li_96, li_97, li_98, li_99, li_100, li_101, li_102, li_103, li_104, li_105, li_106, li_107, li_108, li_109, li_110, li_111, li_112, li_113, li_114, li_115, li_116, li_117, li_118, li_119, li_120, li_128, li_142, li_255, li_320, li_781, li_852, li_999, li_1000, li_2000, li_3000, li_9999, li_12345, li_65536, li_1000000, li_252645135, li_858993459, li_1103515245, li_1431655765]
          have K := s_sheet_L (a := a) (d := d) e.1 e.2 q.1 (show P ≤ 2 by omega) q0 q14 (2 * g.1.1).toNat 0 0 FU _ _ _ (by omega) (by omega) (show _ < 4000 by omega) (hS.mono (show n ≤ n + 1 by omega)) (fun i _ => rfl) c3.2.1 m3
          rw [Int.zero_mul, Int.add_zero] at K
          refine so_mono K ?_
          intro o ho
          refine so_mono ho ?_
          rintro p ⟨p1, A', a1, a3, a4, a5⟩
          obtain ⟨h1, h2, h3, h4, h5, h6, h7, h8, h9⟩ := G.mono (show n ≤ n + 1 by omega)
          exact ⟨p1, by omega, ((g.1, g.2.1, A', g.2.2.2.1, g.2.2.2.2.1, g.2.2.2.2.2.1, g.2.2.2.2.2.2.1, g.2.2.2.2.2.2.2.1, g.2.2.2.2.2.2.2.2.1, g.2.2.2.2.2.2.2.2.2.1, g.2.2.2.2.2.2.2.2.2.2.1, g.2.2.2.2.2.2.2.2.2.2.2.1, g.2.2.2.2.2.2.2.2.2.2.2.2.1, g.2.2.2.2.2.2.2.2.2.2.2.2.2.1, g.2.2.2.2.2.2.2.2.2.2.2.2.2.2.1, g.2.2.2.2.2.2.2.2.2.2.2.2.2.2.2) : GH), ⟨c1, c2, stc_snow c3 a4 a3, c4, c5, c6, c7, c8, c9⟩, ⟨m1, m2, a5, m4, m5, m6, m7, m8, m9⟩, h1, h2, a1, h4, h5, h6, h7, h8, h9⟩
        · simp (disch := omega) only [gd_t, so_some, so_bind, so_gd, so_none, Option.bind_some, iI_add, iI_sub, iI_mul, iI_neg, iI_clamp, iI_nat, vin_i, iI_le, iI_lt, iI_eq, mn_i, mx_i, if_true, if_false, if_pos, if_neg, li_0, li_1, li_2, li_3, li_4, li_5, li_6, li_7, li_8, li_9, li_10, li_11, li_12, li_14, li_15, li_16, li_20, li_21, li_24, li_28, li_30, li_31, li_40, li_41, li_42, li_43, li_44, li_45, li_47, li_48, li_49, li_57, li_59, li_60, li_61, li_62, li_63, li_70, li_71, li_76, li_80, li_96, li_97, li_98, li_99, li_100, li_101, li_102, li_103, li_104, li_105, li_106, li_107, li_108, li_109, li_110, li_111, li_112, li_113, li_114, li_115, li_116, li_117, li_118, li_119, li_120, li_128, li_142, li_255, li_320, li_781, li_852, li_999, li_1000, li_2000, li_3000, li_9999, li_12345, li_65536, li_1000000, li_252645135, li_858993459, li_1103515245, li_1431655765]
          exact ⟨(by first | rfl | trivial), R.same ⟨n0.1, hn⟩ G ⟨c1, c2, c3, c4, c5, c6, c7, c8, c9⟩ ⟨m1, m2, m3, m4, m5, m6, m7, m8, m9⟩⟩
    · simp (disch := omega) only [gd_t, so_some, so_bind, so_gd, so_none, Option.bind_some, iI_add, iI_sub, iI_mul, iI_neg, iI_clamp, iI_nat, vin_i, iI_le, iI_lt, iI_eq, mn_i, mx_i, if_true, if_false, if_pos, if_neg, li_0, li_1, li_2, li_3, li_4, li_5, li_6, li_7, li_8, li_9, li_10, li_11, li_12, li_14, li_15, li_16, li_20, li_21, li_24, li_28, li_30, li_31, li_40, li_41, li_42, li_43, li_44, li_45, li_47, li_48, li_49, li_57, li_59, li_60, li_61, li_62, li_63, li_70, li_71, li_76, li_80, li_96, li_97, li_98, li_99, li_100, li_101, li_102, li_103, li_104, li_105, li_106, li_107, li_108, li_109, li_110, li_111, li_112, li_113, li_114, li_115, li_116, li_117, li_118, li_119, li_120, li_128, li_142, li_255, li_320, li_781, li_852, li_999, li_1000, li_2000, li_3000, li_9999, li_12345, li_65536, li_1000000, li_252645135, li_858993459, li_1103515245, li_1431655765]
      exact ⟨(by first | rfl | trivial), R.same ⟨n0.1, hn⟩ G ⟨c1, c2, c3, c4, c5, c6, c7, c8, c9⟩ ⟨m1, m2, m3, m4, m5, m6, m7, m8, m9⟩⟩
  · have z1 := in_f (a := P) (b := 0) (c := 3) (by omega) (by omega) (by omega) (by omega) (by omega) (by omega) q
    have z2 := win_f (a := P) (b := 0) (c := 3) (by omega) (by omega) (by omega) (by omega) (by omega) (by omega) q
    simp only [li_0, li_3, z1, z2, Option.bind_some]
    simp (disch := omega) only [gd_t, so_some, so_bind, so_gd, so_none, Option.bind_some, iI_add, iI_sub, iI_mul, iI_neg, iI_clamp, iI_nat, vin_i, iI_le, iI_lt, iI_eq, mn_i, mx_i, if_true, if_false, if_pos, if_neg, li_0, li_1, li_2, li_3, li_4, li_5, li_6, li_7, li_8, li_9, li_10, li_11, li_12, li_14, li_15, li_16, li_20, li_21, li_24, li_28, li_30, li_31, li_40, li_41, li_42, li_43, li_44, li_45, li_47, li_48, li_49, li_57, li_59, li_60, li_61, li_62, li_63, li_70, li_71, li_76, li_80, li_96, li_97, li_98, li_99, li_100, li_101, li_102, li_103, li_104, li_105, li_106, li_107, li_108, li_109, li_110, li_111, li_112, li_113, li_114, li_115, li_116, li_117, li_118, li_119, li_120, li_128, li_142, li_255, li_320, li_781, li_852, li_999, li_1000, li_2000, li_3000, li_9999, li_12345, li_65536, li_1000000, li_252645135, li_858993459, li_1103515245, li_1431655765]
    exact ⟨(by first | rfl | trivial), R.same ⟨n0.1, hn⟩ G ⟨c1, c2, c3, c4, c5, c6, c7, c8, c9⟩ ⟨m1, m2, m3, m4, m5, m6, m7, m8, m9⟩⟩
