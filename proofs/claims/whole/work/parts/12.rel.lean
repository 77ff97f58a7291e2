/-! how the two states hang together -/
abbrev GH : Type := EN × (Int → Int) × (Int → Int) × Int × (Int → Int → Int) × Int × (Int → Int) × Int × List Int32 × (Int → Int) × (Int → Int → Int) × (Int → Int) × Int × Int × (Int → Int) × (Int → Int)
/-- a byte as the machine has it -/
def sb (x : Int) : Int := if x < 128 then x else x - 256
def RC (g : GH) (σ : CS) : Prop :=
  EnC g.1 (σ.1 26) (σ.1 33) (σ.1 19) (σ.2.1 28) (σ.2.1 26) (σ.2.1 36) (σ.2.1 17) ∧
  Arr g.1.1 (σ.2.1 27) g.2.1 ∧
  StC g.2.2.1 (σ.1 11) (σ.2.1 12) (σ.2.1 11) (σ.2.1 10) ∧
  (σ.1 34) = iI g.2.2.2.1 ∧
  HsC g.2.2.2.2.1 g.2.2.2.2.2.1 (σ.1 3) (σ.1 2) (σ.2.2.1 0) (σ.2.2.2 2) (σ.2.2.2 1) (σ.2.2.2 0) ∧
  (Arr 80 (σ.2.1 24) g.2.2.2.2.2.2.1 ∧ (σ.1 22) = iI g.2.2.2.2.2.2.2.1) ∧
  Rw g.2.2.2.2.2.2.2.2.1 (σ.1 25) (σ.2.1 25) ∧
  (Arr 2 (σ.2.1 6) g.2.2.2.2.2.2.2.2.2.1 ∧ ∀ i, 0 ≤ i → i < 2 → g.2.2.2.2.2.2.2.2.2.1 i ≠ -1 → StC (g.2.2.2.2.2.2.2.2.2.2.1 i) ((σ.2.2.1 1) i.toNat) ((σ.2.2.2 5) i.toNat) ((σ.2.2.2 4) i.toNat) ((σ.2.2.2 3) i.toNat)) ∧
  ((σ.1 27) = iI g.2.2.2.2.2.2.2.2.2.2.2.2.2.1 ∧ Arr g.2.2.2.2.2.2.2.2.2.2.2.2.2.1 (σ.2.1 29) g.2.2.2.2.2.2.2.2.2.2.2.2.2.2.1 ∧ Arr g.2.2.2.2.2.2.2.2.2.2.2.2.2.1 (σ.2.1 30) g.2.2.2.2.2.2.2.2.2.2.2.2.2.2.2)
def RM (g : GH) (τ : MS) : Prop :=
  EnM g.1 (τ.1 9) (τ.1 24) (τ.1 15) (τ.2.1 7) (τ.2.1 2) (τ.2.1 23) (τ.2.1 17) ∧
  Arr g.1.1 (τ.2.1 6) g.2.1 ∧
  Arr 71 (τ.2.1 12) g.2.2.1 ∧
  (τ.1 24) = iI g.2.2.2.1 ∧
  HsM g.2.2.2.2.1 g.2.2.2.2.2.1 (τ.1 23) (τ.2.1 22) ∧
  (Arr 80 (τ.2.1 18) (fun i => sb (g.2.2.2.2.2.2.1 i)) ∧ (τ.1 22) = iI g.2.2.2.2.2.2.2.1) ∧
  Rw g.2.2.2.2.2.2.2.2.1 (τ.1 14) (τ.2.1 16) ∧
  (Arr 2 (τ.2.1 8) (fun i => if g.2.2.2.2.2.2.2.2.2.1 i = -1 then 0 else 1) ∧ Arr 2 (τ.2.1 10) g.2.2.2.2.2.2.2.2.2.2.2.1 ∧ (τ.1 8) = iI g.2.2.2.2.2.2.2.2.2.2.2.2.1 ∧ ∀ i j, 0 ≤ i → i < 2 → g.2.2.2.2.2.2.2.2.2.1 i ≠ -1 → 0 ≤ j → j < 71 → (τ.2.1 9) (71 * i + j).toNat = iI (g.2.2.2.2.2.2.2.2.2.2.1 i j)) ∧
  ((τ.1 21) = iI g.2.2.2.2.2.2.2.2.2.2.2.2.2.1 ∧ ∀ k, 0 ≤ k → k < g.2.2.2.2.2.2.2.2.2.2.2.2.2.1 → (τ.2.1 20) (2 * k).toNat = iI (g.2.2.2.2.2.2.2.2.2.2.2.2.2.2.1 k) ∧ (τ.2.1 20) (2 * k + 1).toNat = iI (g.2.2.2.2.2.2.2.2.2.2.2.2.2.2.2 k))
/-- a state, of h houses, at most so late -/
def SG (h n : Int) (A : Int → Int) : Prop := WA A ∧ ZB h A ∧ A 70 ≤ 300 * n
def RG (n : Int) (g : GH) : Prop :=
  EnG g.1 ∧ (∀ i, 0 ≤ i → i < g.1.1 → 0 ≤ g.2.1 i ∧ g.2.1 i ≤ 30) ∧ SG g.1.1 n g.2.2.1 ∧ (0 ≤ g.2.2.2.1 ∧ g.2.2.2.1 ≤ 40) ∧
  (∀ j, 0 ≤ j → j < g.2.2.2.2.2.1 → SG g.1.1 n (g.2.2.2.2.1 j)) ∧ (0 ≤ g.2.2.2.2.2.2.2.1 ∧ g.2.2.2.2.2.2.2.1 ≤ 80 ∧ ∀ i, 0 ≤ g.2.2.2.2.2.2.1 i ∧ g.2.2.2.2.2.2.1 i ≤ 255) ∧ g.2.2.2.2.2.2.2.2.1.length ≤ 8 ∧
  ((∀ i, 0 ≤ i → i < 2 → g.2.2.2.2.2.2.2.2.2.1 i = -1 ∨ (0 ≤ g.2.2.2.2.2.2.2.2.2.1 i ∧ g.2.2.2.2.2.2.2.2.2.1 i ≤ g.1.1 ∧ 0 ≤ g.2.2.2.2.2.2.2.2.2.2.2.1 i ∧ g.2.2.2.2.2.2.2.2.2.2.2.1 i ≤ g.2.2.2.2.2.2.2.2.2.2.2.2.1 ∧ (g.2.2.2.2.2.2.2.2.2.1 i = g.1.1 ↔ g.2.2.2.2.2.2.2.2.2.2.2.1 i = g.2.2.2.2.2.2.2.2.2.2.2.2.1) ∧ SG (g.2.2.2.2.2.2.2.2.2.1 i) n (g.2.2.2.2.2.2.2.2.2.2.1 i))) ∧ 0 ≤ g.2.2.2.2.2.2.2.2.2.2.2.2.1 ∧ g.2.2.2.2.2.2.2.2.2.2.2.2.1 ≤ n) ∧
  (0 ≤ g.2.2.2.2.2.2.2.2.2.2.2.2.2.1 ∧ g.2.2.2.2.2.2.2.2.2.2.2.2.2.1 ≤ 20 ∧ ∀ k, 0 ≤ k → k < g.2.2.2.2.2.2.2.2.2.2.2.2.2.1 → (0 ≤ g.2.2.2.2.2.2.2.2.2.2.2.2.2.2.1 k ∧ g.2.2.2.2.2.2.2.2.2.2.2.2.2.2.1 k < g.1.1) ∧ 0 ≤ g.2.2.2.2.2.2.2.2.2.2.2.2.2.2.2 k ∧ g.2.2.2.2.2.2.2.2.2.2.2.2.2.2.2 k ≤ 999)
def R (n : Int) (σ : CS) (τ : MS) : Prop := (0 ≤ n ∧ n ≤ 1000) ∧ ∃ g : GH, RC g σ ∧ RM g τ ∧ RG n g
theorem SG.mono {h n m : Int} {A : Int → Int} (H : SG h n A) (hm : n ≤ m) : SG h m A := ⟨H.1, H.2.1, by have := H.2.2; omega⟩
theorem RG.mono {n m : Int} {g : GH} (H : RG n g) (hm : n ≤ m) : RG m g := by
  obtain ⟨h1, h2, h3, h4, h5, h6, h7, h8, h9⟩ := H
  refine ⟨h1, h2, h3.mono hm, h4, fun j j0 j1 => (h5 j j0 j1).mono hm, h6, h7, ⟨fun i i0 i1 => ?_, h8.2.1, by omega⟩, h9⟩
  rcases h8.1 i i0 i1 with q | ⟨a, b, c, d, e, f⟩
  · exact Or.inl q
  · exact Or.inr ⟨a, b, c, d, e, f.mono hm⟩
/-- a call: both answer the same, and hang together again -/
def Ok (n : Int) (x : Option (Int32 × CS)) (y : Option (Int32 × MS)) : Prop := So x (fun o => So y (fun p => o.1 = p.1 ∧ R (n + 1) o.2 p.2))
theorem s_falls {n : Int} {σ : CS} {τ : MS} (h : R n σ τ) (hn : n < 1000) (p1 : Int32) : Ok n (x_falls σ p1) (y_falls τ p1) := by
  obtain ⟨n0, g, c, m, G⟩ := h
  obtain ⟨P, rfl, b0, b1⟩ := iI_of p1
  have hR : ∀ v, R (n + 1) σ (va_up τ.1 19 v, τ.2.1, τ.2.2) := fun v => ⟨by omega, g, c, m, G.mono (by omega)⟩
  unfold Ok x_falls y_falls fX11_falls fX12_falls
  by_cases q : 0 ≤ P ∧ P ≤ 9999
  · simp (disch := omega) only [gd_t, so_some, so_bind, so_gd, so_none, Option.bind_some, iI_add, iI_sub, iI_mul, iI_neg, iI_clamp, iI_nat, vin_i, iI_le, iI_lt, iI_eq, mn_i, mx_i, if_true, if_false, if_pos, if_neg, li_0, li_1, li_2, li_3, li_4, li_5, li_6, li_7, li_8, li_9, li_10, li_11, li_12, li_14, li_15, li_16, li_20, li_21, li_24, li_28, li_30, li_31, li_40, li_41, li_42, li_43, li_44, li_45, li_47, li_48, li_49, li_57, li_59, li_60, li_61, li_62, li_63, li_70, li_71, li_76, li_80, li_96, li_97, li_98, li_99, li_100, li_101, li_102, li_103, li_104, li_105, li_106, li_107, li_108, li_109, li_110, li_111, li_112, li_113, li_114, li_115, li_116, li_117, li_118, li_119, li_120, li_128, li_142, li_255, li_320, li_781, li_852, li_999, li_1000, li_2000, li_3000, li_9999, li_12345, li_65536, li_1000000, li_252645135, li_858993459, li_1103515245, li_1431655765, has_t, has_f, win_t, win_f, in_t, in_f, isH_t, isH_f, hasS_t, hasS_f, isS_t, isS_f, has2_t, has2_f, are2_t, are2_f, c.1.2.2.2.1, m.1.2.2.2.1]
    exact ⟨trivial, hR _⟩
  · simp (disch := omega) only [gd_t, so_some, so_bind, so_gd, so_none, Option.bind_some, iI_add, iI_sub, iI_mul, iI_neg, iI_clamp, iI_nat, vin_i, iI_le, iI_lt, iI_eq, mn_i, mx_i, if_true, if_false, if_pos, if_neg, li_0, li_1, li_2, li_3, li_4, li_5, li_6, li_7, li_8, li_9, li_10, li_11, li_12, li_14, li_15, li_16, li_20, li_21, li_24, li_28, li_30, li_31, li_40, li_41, li_42, li_43, li_44, li_45, li_47, li_48, li_49, li_57, li_59, li_60, li_61, li_62, li_63, li_70, li_71, li_76, li_80, li_96, li_97, li_98, li_99, li_100, li_101, li_102, li_103, li_104, li_105, li_106, li_107, li_108, li_109, li_110, li_111, li_112, li_113, li_114, li_115, li_116, li_117, li_118, li_119, li_120, li_128, li_142, li_255, li_320, li_781, li_852, li_999, li_1000, li_2000, li_3000, li_9999, li_12345, li_65536, li_1000000, li_252645135, li_858993459, li_1103515245, li_1431655765, has_t, has_f, win_t, win_f, in_t, in_f, isH_t, isH_f, hasS_t, hasS_f, isS_t, isS_f, has2_t, has2_f, are2_t, are2_f]
    exact ⟨trivial, hR _⟩
theorem s_debt {n : Int} {σ : CS} {τ : MS} (h : R n σ τ) (hn : n < 1000) (p1 p2 : Int32) : Ok n (x_debt σ p1 p2) (y_debt τ p1 p2) := by
  obtain ⟨n0, g, c, m, G⟩ := h
  obtain ⟨P, rfl, b0, b1⟩ := iI_of p1
  obtain ⟨Q, rfl, b2, b3⟩ := iI_of p2
  have hR : ∀ v, R (n + 1) σ (va_up τ.1 19 v, τ.2.1, τ.2.2) := fun v => ⟨by omega, g, c, m, G.mono (by omega)⟩
  have e := G.1.1
  have hd := c.2.2.1.2.2.2
  have ha := m.2.2.1
  unfold Ok x_debt y_debt fX11_debt fX12_debt
  rw [c.1.1, m.1.1]
  by_cases q : 0 ≤ P ∧ P < g.1.1 ∧ 0 ≤ Q ∧ Q < g.1.1 ∧ P ≠ Q
  · simp (disch := omega) only [gd_t, so_some, so_bind, so_gd, so_none, Option.bind_some, iI_add, iI_sub, iI_mul, iI_neg, iI_clamp, iI_nat, vin_i, iI_le, iI_lt, iI_eq, mn_i, mx_i, if_true, if_false, if_pos, if_neg, li_0, li_1, li_2, li_3, li_4, li_5, li_6, li_7, li_8, li_9, li_10, li_11, li_12, li_14, li_15, li_16, li_20, li_21, li_24, li_28, li_30, li_31, li_40, li_41, li_42, li_43, li_44, li_45, li_47, li_48, li_49, li_57, li_59, li_60, li_61, li_62, li_63, li_70, li_71, li_76, li_80, li_96, li_97, li_98, li_99, li_100, li_101, li_102, li_103, li_104, li_105, li_106, li_107, li_108, li_109, li_110, li_111, li_112, li_113, li_114, li_115, li_116, li_117, li_118, li_119, li_120, li_128, li_142, li_255, li_320, li_781, li_852, li_999, li_1000, li_2000, li_3000, li_9999, li_12345, li_65536, li_1000000, li_252645135, li_858993459, li_1103515245, li_1431655765, has_t, has_f, win_t, win_f, in_t, in_f, isH_t, isH_f, hasS_t, hasS_f, isS_t, isS_f, has2_t, has2_f, are2_t, are2_f, hd.at, ha.at]
    refine ⟨?_, hR _⟩
    rw [show 21 + 7 * P + Q = 21 + (P * 7 + Q) by omega]
  · simp (disch := omega) only [gd_t, so_some, so_bind, so_gd, so_none, Option.bind_some, iI_add, iI_sub, iI_mul, iI_neg, iI_clamp, iI_nat, vin_i, iI_le, iI_lt, iI_eq, mn_i, mx_i, if_true, if_false, if_pos, if_neg, li_0, li_1, li_2, li_3, li_4, li_5, li_6, li_7, li_8, li_9, li_10, li_11, li_12, li_14, li_15, li_16, li_20, li_21, li_24, li_28, li_30, li_31, li_40, li_41, li_42, li_43, li_44, li_45, li_47, li_48, li_49, li_57, li_59, li_60, li_61, li_62, li_63, li_70, li_71, li_76, li_80, li_96, li_97, li_98, li_99, li_100, li_101, li_102, li_103, li_104, li_105, li_106, li_107, li_108, li_109, li_110, li_111, li_112, li_113, li_114, li_115, li_116, li_117, li_118, li_119, li_120, li_128, li_142, li_255, li_320, li_781, li_852, li_999, li_1000, li_2000, li_3000, li_9999, li_12345, li_65536, li_1000000, li_252645135, li_858993459, li_1103515245, li_1431655765, has_t, has_f, win_t, win_f, in_t, in_f, isH_t, isH_f, hasS_t, hasS_f, isS_t, isS_f, has2_t, has2_f, are2_t, are2_f]
    exact ⟨trivial, hR _⟩
