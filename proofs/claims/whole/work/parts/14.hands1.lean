/-! sweeping, clearing, wind, work: what changes the state and can be undone -/
def ot (s : Int) : Int := if s % 2 = 0 then s + 1 else s - 1
theorem ot_b {s h : Int} (h0 : 0 ≤ s) (h1 : s < 2 * h) : 0 ≤ ot s ∧ ot s < 2 * h ∧ ot s ≠ s := by unfold ot; split <;> omega
theorem xor1 {s : Int} (h0 : 0 ≤ s) (h1 : s < 14) : iI s ^^^ iI 1 = iI (ot s) := by
  have h : s = 0 ∨ s = 1 ∨ s = 2 ∨ s = 3 ∨ s = 4 ∨ s = 5 ∨ s = 6 ∨ s = 7 ∨ s = 8 ∨ s = 9 ∨ s = 10 ∨ s = 11 ∨ s = 12 ∨ s = 13 := by omega
  rcases h with rfl | rfl | rfl | rfl | rfl | rfl | rfl | rfl | rfl | rfl | rfl | rfl | rfl | rfl <;> decide +kernel
def swA (A : Int → Int) (s v : Int) : Int → Int := upI (upI A s (A s - v)) (ot s) (min 999 (A (ot s) + v))
theorem sw_hi {A : Int → Int} {s v i : Int} (h0 : 0 ≤ s) (h1 : s < 14) (hi : 14 ≤ i) : swA A s v i = A i := by
  have := ot_b (h := 7) h0 (by omega)
  unfold swA
  rw [upI_o _ (by omega), upI_o _ (by omega)]
theorem wa_sw {A : Int → Int} (hA : WA A) {s v : Int} (h0 : 0 ≤ s) (h1 : s < 14) (v0 : 0 ≤ v) (v1 : v ≤ A s) : WA (swA A s v) := by
  have a := hA.1 s h0 (by omega)
  have o := ot_b (h := 7) h0 (by omega)
  have b := hA.1 (ot s) (by omega) (by omega)
  exact (hA.up (fun _ _ => by omega) (fun _ _ => by omega) (fun _ => by omega)).up (fun _ _ => by omega) (fun _ _ => by omega) (fun _ => by omega)
theorem ZB.up {h : Int} {A : Int → Int} (Z : ZB h A) {k v : Int} (h1 : 2 * h ≤ k → k < 14 → v = 0) (h2 : 14 + h ≤ k → k < 21 → v = 0) (h3 : 21 ≤ k → k < 70 → v = A k ∨ ∃ i j, 0 ≤ i ∧ i < h ∧ 0 ≤ j ∧ j < h ∧ i ≠ j ∧ k = 21 + (i * 7 + j)) (h7 : h ≤ 7) : ZB h (upI A k v) := by
  refine ⟨fun i i0 i1 => ?_, fun i i0 i1 => ?_, fun i j i0 i1 j0 j1 q => ?_⟩
  · by_cases e : i = k
    · subst e; rw [upI_s]; exact h1 i0 i1
    · rw [upI_o _ e]; exact Z.1 i i0 i1
  · by_cases e : 14 + i = k
    · rw [e, upI_s]; exact h2 (by omega) (by omega)
    · rw [upI_o _ e]; exact Z.2.1 i i0 i1
  · by_cases e : 21 + (i * 7 + j) = k
    · rw [e, upI_s]
      rcases h3 (by omega) (by omega) with r | ⟨x, y, x0, x1, y0, y1, xy, r⟩
      · rw [r, ← e]; exact Z.2.2 i j i0 i1 j0 j1 q
      · omega
    · rw [upI_o _ e]; exact Z.2.2 i j i0 i1 j0 j1 q
theorem zb_sw {h : Int} (h7 : h ≤ 7) {A : Int → Int} (Z : ZB h A) {s v : Int} (h0 : 0 ≤ s) (h1 : s < 2 * h) : ZB h (swA A s v) := by
  have o := ot_b h0 h1
  exact (Z.up (by omega) (by omega) (by omega) h7).up (by omega) (by omega) (by omega) h7
theorem SG.sw {h n : Int} (h7 : h ≤ 7) {A : Int → Int} (H : SG h n A) {s v : Int} (h0 : 0 ≤ s) (h1 : s < 2 * h) (v0 : 0 ≤ v) (v1 : v ≤ A s) : SG h n (swA A s v) :=
  ⟨wa_sw H.1 h0 (by omega) v0 v1, zb_sw h7 H.2.1 h0 h1, by rw [sw_hi h0 (by omega) (by omega)]; exact H.2.2⟩
theorem c_shift {A : Int → Int} (hA : WA A) {snow : Nat → Int32} (hs : Arr 14 snow A) {s k : Int} (h0 : 0 ≤ s) (h1 : s < 14) (k0 : 0 ≤ k) (k1 : k < 2147483648) :
    So (fX5_shift snow (iI s) (iI k)) (fun o => o.1 = iI (min k (A s)) ∧ Arr 14 o.2 (swA A s (min k (A s)))) := by
  have a := hA.1 s h0 (by omega)
  have o := ot_b (h := 7) h0 (by omega)
  have b := hA.1 (ot s) (by omega) (by omega)
  have u := hs.up (A s - min k (A s)) h0
  have e : upI A s (A s - min k (A s)) (ot s) = A (ot s) := upI_o _ (by omega)
  unfold fX5_shift
  simp (disch := omega) only [gd_t, so_some, so_bind, so_gd, so_none, Option.bind_some, iI_add, iI_sub, iI_mul, iI_neg, iI_clamp, iI_nat, vin_i, iI_le, iI_lt, iI_eq, mn_i, mx_i, if_true, if_false, if_pos, if_neg, li_0, li_1, li_2, li_3, li_4, li_5, li_6, li_7, li_8, li_9, li_10, li_11, li_12, li_14, li_15, li_16, li_20, li_21, li_24, li_28, li_30, li_31, li_40, li_41, li_42, li_43, li_44, li_45, li_47, li_48, li_49, li_57, li_59, li_60, li_61, li_62, li_63, li_70, li_71, li_76, li_80, li_96, li_97, li_98, li_99, li_100, li_101, li_102, li_103, li_104, li_105, li_106, li_107, li_108, li_109, li_110, li_111, li_112, li_113, li_114, li_115, li_116, li_117, li_118, li_119, li_120, li_128, li_142, li_255, li_320, li_781, li_852, li_999, li_1000, li_2000, li_3000, li_9999, li_12345, li_65536, li_1000000, li_252645135, li_858993459, li_1103515245, li_1431655765, xor1, hs.at, u.at, e]
  exact ⟨(by first | rfl | trivial), u.up _ (by omega)⟩
theorem rem2 {s : Int} (h0 : 0 ≤ s) (h1 : s < 14) : rem (iI s) (iI 2) = iI (s % 2) := iI_rem h0 (by omega) (by omega) (by omega)
theorem m_sweeps {A : Int → Int} (hA : WA A) {a : Nat → Int32} (ha : Arr 71 a A) {s v : Int} (h0 : 0 ≤ s) (h1 : s < 14) (v0 : 0 ≤ v) (v1 : v ≤ 999) : So (fX12_sweeps 71 a (iI s) (iI v)) (fun o => Arr 71 o (swA A s v)) := by
  have a1 := hA.1 s h0 (by omega)
  have o := ot_b (h := 7) h0 (by omega)
  have b := hA.1 (ot s) (by omega) (by omega)
  have u := ha.up (A s - v) h0
  have e : upI A s (A s - v) (ot s) = A (ot s) := upI_o _ (by omega)
  have key : So (fX12_sweeps_J15 71 (iI s) (iI v) (iI (ot s)) a) (fun o => Arr 71 o (swA A s v)) := by
    unfold fX12_sweeps_J15
    simp (disch := omega) only [gd_t, so_some, so_bind, so_gd, so_none, Option.bind_some, iI_add, iI_sub, iI_mul, iI_neg, iI_clamp, iI_nat, vin_i, iI_le, iI_lt, iI_eq, mn_i, mx_i, if_true, if_false, if_pos, if_neg, li_0, li_1, li_2, li_3, li_4, li_5, li_6, li_7, li_8, li_9, li_10, li_11, li_12, li_14, li_15, li_16, li_20, li_21, li_24, li_28, li_30, li_31, li_40, li_41, li_42, li_43, li_44, li_45, li_47, li_48, li_49, li_57, li_59, li_60, li_61, li_62, li_63, li_70, li_71, li_76, li_80, li_96, li_97, li_98, li_99, li_100, li_101, li_102, li_103, li_104, li_105, li_106, li_107, li_108, li_109, li_110, li_111, li_112, li_113, li_114, li_115, li_116, li_117, li_118, li_119, li_120, li_128, li_142, li_255, li_320, li_781, li_852, li_999, li_1000, li_2000, li_3000, li_9999, li_12345, li_65536, li_1000000, li_252645135, li_858993459, li_1103515245, li_1431655765, ha.at, u.at, e]
    exact u.up _ (by omega)
  unfold fX12_sweeps
  simp (disch := omega) only [gd_t, so_some, so_bind, so_gd, so_none, Option.bind_some, iI_add, iI_sub, iI_mul, iI_neg, iI_clamp, iI_nat, vin_i, iI_le, iI_lt, iI_eq, mn_i, mx_i, if_true, if_false, if_pos, if_neg, li_0, li_1, li_2, li_3, li_4, li_5, li_6, li_7, li_8, li_9, li_10, li_11, li_12, li_14, li_15, li_16, li_20, li_21, li_24, li_28, li_30, li_31, li_40, li_41, li_42, li_43, li_44, li_45, li_47, li_48, li_49, li_57, li_59, li_60, li_61, li_62, li_63, li_70, li_71, li_76, li_80, li_96, li_97, li_98, li_99, li_100, li_101, li_102, li_103, li_104, li_105, li_106, li_107, li_108, li_109, li_110, li_111, li_112, li_113, li_114, li_115, li_116, li_117, li_118, li_119, li_120, li_128, li_142, li_255, li_320, li_781, li_852, li_999, li_1000, li_2000, li_3000, li_9999, li_12345, li_65536, li_1000000, li_252645135, li_858993459, li_1103515245, li_1431655765, rem2]
  by_cases q : s % 2 = 0
  · rw [if_pos q]
    rw [show ot s = s + 1 from if_pos q] at key
    exact key
  · rw [if_neg q]
    rw [show ot s = s - 1 from if_neg q] at key
    exact key
theorem c_startCall {A : Int → Int} {now : Int32} {snow path debt : Nat → Int32} (S : StC A now snow path debt) (o0 s0 t0 d0 n0 : Int32) (bs bp bd ob : Nat → Int32) :
    So (fX11_startCall o0 s0 t0 d0 n0 now bs bp bd snow path debt ob) (fun o => (o.1 = iI 0 ∧ o.2.1 = iI 0 ∧ o.2.2.1 = 0 ∧ o.2.2.2.1 = 0 ∧ Arr 7 o.2.2.2.2.2.2.2.2 (fun _ => 0)) ∧ StC A o.2.2.2.2.1 o.2.2.2.2.2.1 o.2.2.2.2.2.2.1 o.2.2.2.2.2.2.2.1) := by
  unfold fX11_startCall
  simp only [so_bind]
  refine so_mono (c_takeFrom S n0 bs bp bd) ?_
  intro o ho
  refine so_mono (c_clearTally o0 s0 t0 d0 ob) ?_
  intro p hp
  rw [so_some]
  exact ⟨hp, ho⟩
theorem c_rem_t {U : Int → Int → Int} {u : Int} {size next : Int32} {hn : Nat → Int32} {Hs Hp Hd : Nat → Nat → Int32} (H : HsC U u size next hn Hs Hp Hd) {A : Int → Int} {now : Int32} {snow path debt : Nat → Int32} (S : StC A now snow path debt) {v : Int} (v0 : 0 ≤ v) (v1 : v < 2147483648) :
    So (fX11_remembered size next hn now Hs Hp Hd snow path debt (iI v)) (fun o => o.1 = iI v ∧ HsC (puU U u A) (puN u) o.2.1 o.2.2.1 o.2.2.2.1 o.2.2.2.2.1 o.2.2.2.2.2.1 o.2.2.2.2.2.2) := by
  unfold fX11_remembered
  simp (disch := omega) only [gd_t, so_some, so_bind, so_gd, so_none, Option.bind_some, iI_add, iI_sub, iI_mul, iI_neg, iI_clamp, iI_nat, vin_i, iI_le, iI_lt, iI_eq, mn_i, mx_i, if_true, if_false, if_pos, if_neg, li_0, li_1, li_2, li_3, li_4, li_5, li_6, li_7, li_8, li_9, li_10, li_11, li_12, li_14, li_15, li_16, li_20, li_21, li_24, li_28, li_30, li_31, li_40, li_41, li_42, li_43, li_44, li_45, li_47, li_48, li_49, li_57, li_59, li_60, li_61, li_62, li_63, li_70, li_71, li_76, li_80, li_96, li_97, li_98, li_99, li_100, li_101, li_102, li_103, li_104, li_105, li_106, li_107, li_108, li_109, li_110, li_111, li_112, li_113, li_114, li_115, li_116, li_117, li_118, li_119, li_120, li_128, li_142, li_255, li_320, li_781, li_852, li_999, li_1000, li_2000, li_3000, li_9999, li_12345, li_65536, li_1000000, li_252645135, li_858993459, li_1103515245, li_1431655765]
  refine so_mono (c_push H S) ?_
  intro o ho
  exact ⟨(by first | rfl | trivial), ho⟩
theorem c_rem_f {v : Int} (v0 : v < 0) (v1 : -2147483648 ≤ v) (size next : Int32) (hn : Nat → Int32) (Hs Hp Hd : Nat → Nat → Int32) (now : Int32) (snow path debt : Nat → Int32) :
    fX11_remembered size next hn now Hs Hp Hd snow path debt (iI v) = some (iI v, size, next, hn, Hs, Hp, Hd) := by
  unfold fX11_remembered
  simp (disch := omega) only [gd_t, so_some, so_bind, so_gd, so_none, Option.bind_some, iI_add, iI_sub, iI_mul, iI_neg, iI_clamp, iI_nat, vin_i, iI_le, iI_lt, iI_eq, mn_i, mx_i, if_true, if_false, if_pos, if_neg, li_0, li_1, li_2, li_3, li_4, li_5, li_6, li_7, li_8, li_9, li_10, li_11, li_12, li_14, li_15, li_16, li_20, li_21, li_24, li_28, li_30, li_31, li_40, li_41, li_42, li_43, li_44, li_45, li_47, li_48, li_49, li_57, li_59, li_60, li_61, li_62, li_63, li_70, li_71, li_76, li_80, li_96, li_97, li_98, li_99, li_100, li_101, li_102, li_103, li_104, li_105, li_106, li_107, li_108, li_109, li_110, li_111, li_112, li_113, li_114, li_115, li_116, li_117, li_118, li_119, li_120, li_128, li_142, li_255, li_320, li_781, li_852, li_999, li_1000, li_2000, li_3000, li_9999, li_12345, li_65536, li_1000000, li_252645135, li_858993459, li_1103515245, li_1431655765]
theorem SG.pu {h n : Int} {U : Int → Int → Int} {u : Int} (hu : u ≤ 12) (H : ∀ j, 0 ≤ j → j < u → SG h n (U j)) {A : Int → Int} (hA : SG h n A) : ∀ j, 0 ≤ j → j < puN u → SG h n (puU U u A j) := by
  intro j j0 j1
  unfold puN at j1
  unfold puU
  split
  · split
    · exact hA
    · exact H _ (by omega) (by omega)
  · split
    · exact hA
    · exact H _ (by omega) (by omega)
theorem R.push {n : Int} {g : GH} {σ' : CS} {τ' : MS} (n0 : 0 ≤ n ∧ n < 1000) (G : RG n g) (u1 : g.2.2.2.2.2.1 ≤ 12) {A' : Int → Int} (hA : SG g.1.1 (n + 1) A') (l : List Int32) (hl : l.length ≤ 8) (c : RC ((g.1, g.2.1, A', g.2.2.2.1, puU g.2.2.2.2.1 g.2.2.2.2.2.1 g.2.2.1, puN g.2.2.2.2.2.1, g.2.2.2.2.2.2.1, g.2.2.2.2.2.2.2.1, l, g.2.2.2.2.2.2.2.2.2.1, g.2.2.2.2.2.2.2.2.2.2.1, g.2.2.2.2.2.2.2.2.2.2.2.1, g.2.2.2.2.2.2.2.2.2.2.2.2.1, g.2.2.2.2.2.2.2.2.2.2.2.2.2.1, g.2.2.2.2.2.2.2.2.2.2.2.2.2.2.1, g.2.2.2.2.2.2.2.2.2.2.2.2.2.2.2) : GH) σ')
    (m : RM ((g.1, g.2.1, A', g.2.2.2.1, puU g.2.2.2.2.1 g.2.2.2.2.2.1 g.2.2.1, puN g.2.2.2.2.2.1, g.2.2.2.2.2.2.1, g.2.2.2.2.2.2.2.1, l, g.2.2.2.2.2.2.2.2.2.1, g.2.2.2.2.2.2.2.2.2.2.1, g.2.2.2.2.2.2.2.2.2.2.2.1, g.2.2.2.2.2.2.2.2.2.2.2.2.1, g.2.2.2.2.2.2.2.2.2.2.2.2.2.1, g.2.2.2.2.2.2.2.2.2.2.2.2.2.2.1, g.2.2.2.2.2.2.2.2.2.2.2.2.2.2.2) : GH) τ') : R (n + 1) σ' τ' := by
  obtain ⟨h1, h2, h3, h4, h5, h6, h7, h8, h9⟩ := G.mono (show n ≤ n + 1 by omega)
  exact ⟨by omega, _, c, m, h1, h2, hA, h4, SG.pu u1 h5 h3, h6, hl, h8, h9⟩
theorem stc_snow {A B : Int → Int} {now : Int32} {snow path debt s' : Nat → Int32} (S : StC A now snow path debt) (h : Arr 14 s' B) (e : ∀ i, 14 ≤ i → B i = A i) : StC B now s' path debt :=
  ⟨by rw [e 70 (by omega)]; exact S.1, h, S.2.2.1.congr (fun x x0 x1 => (e _ (by omega)).symm), S.2.2.2.congr (fun x x0 x1 => (e _ (by omega)).symm)⟩
theorem stc_path {A B : Int → Int} {now : Int32} {snow path debt p' : Nat → Int32} (S : StC A now snow path debt) (h : Arr 7 p' (fun i => B (14 + i))) (e : ∀ i, i < 14 ∨ 21 ≤ i → B i = A i) : StC B now snow p' debt :=
  ⟨by rw [e 70 (by omega)]; exact S.1, S.2.1.congr (fun x x0 x1 => (e _ (by omega)).symm), h, S.2.2.2.congr (fun x x0 x1 => (e _ (by omega)).symm)⟩
theorem stc_debt {A B : Int → Int} {now : Int32} {snow path debt d' : Nat → Int32} (S : StC A now snow path debt) (h : Arr 49 d' (fun i => B (21 + i))) (e : ∀ i, i < 21 ∨ 70 ≤ i → B i = A i) : StC B now snow path d' :=
  ⟨by rw [e 70 (by omega)]; exact S.1, S.2.1.congr (fun x x0 x1 => (e _ (by omega)).symm), S.2.2.1.congr (fun x x0 x1 => (e _ (by omega)).symm), h⟩
