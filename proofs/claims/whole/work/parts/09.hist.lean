/-! what can be undone -/
def HsC (U : Int → Int → Int) (u : Int) (size next : Int32) (hn : Nat → Int32) (Hs Hp Hd : Nat → Nat → Int32) : Prop :=
  0 ≤ u ∧ u ≤ 12 ∧ size = iI u ∧ ∃ nx : Int, 0 ≤ nx ∧ nx < 12 ∧ next = iI nx ∧ ∀ j, 0 ≤ j → j < u → StC (U j) (hn ((nx - u + j) % 12).toNat) (Hs ((nx - u + j) % 12).toNat) (Hp ((nx - u + j) % 12).toNat) (Hd ((nx - u + j) % 12).toNat)
def HsM (U : Int → Int → Int) (u : Int) (many : Int32) (undos : Nat → Int32) : Prop :=
  0 ≤ u ∧ u ≤ 12 ∧ many = iI u ∧ ∀ j i, 0 ≤ j → j < u → 0 ≤ i → i < 71 → undos (71 * j + i).toNat = iI (U j i)
def puU (U : Int → Int → Int) (u : Int) (A : Int → Int) : Int → Int → Int := fun j => if u = 12 then (if j = 11 then A else U (j + 1)) else (if j = u then A else U j)
def puN (u : Int) : Int := min 12 (u + 1)
theorem c_push0 {u nx : Int} (u0 : 0 ≤ u) (u1 : u ≤ 12) (n0 : 0 ≤ nx) (n1 : nx < 12) {A : Int → Int} {now : Int32} {snow path debt : Nat → Int32} (S : StC A now snow path debt) (hn : Nat → Int32) (Hs Hp Hd : Nat → Nat → Int32) :
    So (fX2_push (iI u) (iI nx) hn Hs Hp Hd now snow path debt) (fun o => o.1 = iI (puN u) ∧ o.2.1 = iI ((nx + 1) % 12) ∧ ∃ n' s' p' d', StC A n' s' p' d' ∧ o.2.2.1 = va_up hn nx.toNat n' ∧ o.2.2.2.1 = va_up Hs nx.toNat s' ∧ o.2.2.2.2.1 = va_up Hp nx.toNat p' ∧ o.2.2.2.2.2 = va_up Hd nx.toNat d') := by
  have key : ∀ (k : Nat) (n0 : Int32) (s0 p0 d0 : Nat → Int32), nx = k → So (Option.bind (fX5_takeFrom n0 s0 p0 d0 now snow path debt) (fun o => some (mn (iI 12) (iI (u + 1)), rem (iI (nx + 1)) (iI 12), va_up hn k o.1, va_up Hs k o.2.1, va_up Hp k o.2.2.1, va_up Hd k o.2.2.2)))
      (fun o => o.1 = iI (puN u) ∧ o.2.1 = iI ((nx + 1) % 12) ∧ ∃ n' s' p' d', StC A n' s' p' d' ∧ o.2.2.1 = va_up hn nx.toNat n' ∧ o.2.2.2.1 = va_up Hs nx.toNat s' ∧ o.2.2.2.2.1 = va_up Hp nx.toNat p' ∧ o.2.2.2.2.2 = va_up Hd nx.toNat d') := by
    intro k m0 s0 p0 d0 hk
    rw [so_bind]
    refine so_mono (c_takeFrom S m0 s0 p0 d0) ?_
    intro o ho
    rw [so_some]
    have e : nx.toNat = k := by omega
    rw [e]
    refine ⟨?_, ?_, o.1, o.2.1, o.2.2.1, o.2.2.2, ho, rfl, rfl, rfl, rfl⟩
    · show mn (iI 12) (iI (u + 1)) = _
      rw [mn_i (by omega) (by omega) (by omega) (by omega)]
      rfl
    · exact iI_rem (by omega) (by omega) (by omega) (by omega)
  unfold fX2_push
  simp only [li_0, li_1, li_2, li_3, li_4, li_5, li_6, li_7, li_8, li_9, li_10, li_11, li_12, li_14, li_15, li_16, li_20, li_21, li_24, li_28, li_30, li_31, li_40, li_41, li_42, li_43, li_44, li_45, li_47, li_48, li_49, li_57, li_59, li_60, li_61, li_62, li_63, li_70, li_71, li_76, li_80, li_96, li_97, li_98, li_99, li_100, li_101, li_102, li_103, li_104, li_105, li_106, li_107, li_108, li_109, li_110, li_111, li_112, li_113, li_114, li_115, li_116, li_117, li_118, li_119, li_120, li_128, li_142, li_255, li_320, li_781, li_852, li_999, li_1000, li_2000, li_3000, li_9999, li_12345, li_65536, li_1000000, li_252645135, li_858993459, li_1103515245, li_1431655765, iI_add]
  have hx : nx = 0 ∨ nx = 1 ∨ nx = 2 ∨ nx = 3 ∨ nx = 4 ∨ nx = 5 ∨ nx = 6 ∨ nx = 7 ∨ nx = 8 ∨ nx = 9 ∨ nx = 10 ∨ nx = 11 := by omega
  rcases hx with h | h | h | h | h | h | h | h | h | h | h | h
  · have e := key 0 (hn 0) (Hs 0) (Hp 0) (Hd 0) h; simp (disch := omega) only [iI_eq, if_pos, if_neg, if_true, if_false]; exact e
  · have e := key 1 (hn 1) (Hs 1) (Hp 1) (Hd 1) h; simp (disch := omega) only [iI_eq, if_pos, if_neg, if_true, if_false]; exact e
  · have e := key 2 (hn 2) (Hs 2) (Hp 2) (Hd 2) h; simp (disch := omega) only [iI_eq, if_pos, if_neg, if_true, if_false]; exact e
  · have e := key 3 (hn 3) (Hs 3) (Hp 3) (Hd 3) h; simp (disch := omega) only [iI_eq, if_pos, if_neg, if_true, if_false]; exact e
  · have e := key 4 (hn 4) (Hs 4) (Hp 4) (Hd 4) h; simp (disch := omega) only [iI_eq, if_pos, if_neg, if_true, if_false]; exact e
  · have e := key 5 (hn 5) (Hs 5) (Hp 5) (Hd 5) h; simp (disch := omega) only [iI_eq, if_pos, if_neg, if_true, if_false]; exact e
  · have e := key 6 (hn 6) (Hs 6) (Hp 6) (Hd 6) h; simp (disch := omega) only [iI_eq, if_pos, if_neg, if_true, if_false]; exact e
  · have e := key 7 (hn 7) (Hs 7) (Hp 7) (Hd 7) h; simp (disch := omega) only [iI_eq, if_pos, if_neg, if_true, if_false]; exact e
  · have e := key 8 (hn 8) (Hs 8) (Hp 8) (Hd 8) h; simp (disch := omega) only [iI_eq, if_pos, if_neg, if_true, if_false]; exact e
  · have e := key 9 (hn 9) (Hs 9) (Hp 9) (Hd 9) h; simp (disch := omega) only [iI_eq, if_pos, if_neg, if_true, if_false]; exact e
  · have e := key 10 (hn 10) (Hs 10) (Hp 10) (Hd 10) h; simp (disch := omega) only [iI_eq, if_pos, if_neg, if_true, if_false]; exact e
  · have e := key 11 (hn 11) (Hs 11) (Hp 11) (Hd 11) h; simp (disch := omega) only [iI_eq, if_pos, if_neg, if_true, if_false]; exact e
theorem c_push {U : Int → Int → Int} {u : Int} {size next : Int32} {hn : Nat → Int32} {Hs Hp Hd : Nat → Nat → Int32} (H : HsC U u size next hn Hs Hp Hd) {A : Int → Int} {now : Int32} {snow path debt : Nat → Int32} (S : StC A now snow path debt) :
    So (fX2_push size next hn Hs Hp Hd now snow path debt) (fun o => HsC (puU U u A) (puN u) o.1 o.2.1 o.2.2.1 o.2.2.2.1 o.2.2.2.2.1 o.2.2.2.2.2) := by
  obtain ⟨u0, u1, rfl, nx, n0, n1, rfl, h⟩ := H
  refine so_mono (c_push0 u0 u1 n0 n1 S hn Hs Hp Hd) ?_
  rintro o ⟨p1, p2, n', s', p', d', S', q1, q2, q3, q4⟩
  rw [p1, p2, q1, q2, q3, q4]
  refine ⟨by unfold puN; omega, by unfold puN; omega, rfl, (nx + 1) % 12, by omega, by omega, rfl, fun j j0 j1 => ?_⟩
  by_cases hj : ((nx + 1) % 12 - puN u + j) % 12 = nx
  · rw [hj]
    have e : puU U u A j = A := by
      unfold puN at hj j1
      unfold puU
      by_cases q : u = 12
      · rw [if_pos q, if_pos (by omega)]
      · rw [if_neg q, if_pos (by omega)]
    rw [e]
    simp only [va_up, if_true]
    exact S'
  · have e : (((nx + 1) % 12 - puN u + j) % 12).toNat ≠ nx.toNat := by omega
    simp only [va_up, if_neg e]
    unfold puN at hj j1
    unfold puU puN
    by_cases q : u = 12
    · rw [if_pos q, if_neg (by omega)]
      have h2 := h (j + 1) (by omega) (by omega)
      rw [show ((nx + 1) % 12 - min 12 (u + 1) + j) % 12 = (nx - u + (j + 1)) % 12 by omega]
      exact h2
    · rw [if_neg q, if_neg (by omega)]
      have h2 := h j (by omega) (by omega)
      rw [show ((nx + 1) % 12 - min 12 (u + 1) + j) % 12 = (nx - u + j) % 12 by omega]
      exact h2
theorem c_pop {U : Int → Int → Int} {u : Int} {size next : Int32} {hn : Nat → Int32} {Hs Hp Hd : Nat → Nat → Int32} (H : HsC U u size next hn Hs Hp Hd) (hu : u ≠ 0) (now : Int32) (snow path debt : Nat → Int32) :
    So (fX2_pop size next hn Hs Hp Hd now snow path debt) (fun o => HsC U (u - 1) o.1 o.2.1 hn Hs Hp Hd ∧ StC (U (u - 1)) o.2.2.1 o.2.2.2.1 o.2.2.2.2.1 o.2.2.2.2.2) := by
  obtain ⟨u0, u1, rfl, nx, n0, n1, rfl, h⟩ := H
  have key : ∀ (k : Nat), (nx + 12 - 1) % 12 = k → So (Option.bind (fX5_takeFrom now snow path debt (hn k) (Hs k) (Hp k) (Hd k)) (fun o => some (iI (u - 1), iI ((nx + 12 - 1) % 12), o.1, o.2.1, o.2.2.1, o.2.2.2)))
      (fun o => HsC U (u - 1) o.1 o.2.1 hn Hs Hp Hd ∧ StC (U (u - 1)) o.2.2.1 o.2.2.2.1 o.2.2.2.2.1 o.2.2.2.2.2) := by
    intro k hk
    have h2 := h (u - 1) (by omega) (by omega)
    rw [show ((nx - u + (u - 1)) % 12).toNat = k by omega] at h2
    rw [so_bind]
    refine so_mono (c_takeFrom h2 now snow path debt) ?_
    intro o ho
    rw [so_some]
    refine ⟨⟨by omega, by omega, rfl, (nx + 12 - 1) % 12, by omega, by omega, rfl, fun j j0 j1 => ?_⟩, ho⟩
    have h3 := h j j0 (by omega)
    rw [show ((nx + 12 - 1) % 12 - (u - 1) + j) % 12 = (nx - u + j) % 12 by omega]
    exact h3
  unfold fX2_pop
  have e0 : rem (iI nx + 12 - 1) 12 = iI ((nx + 12 - 1) % 12) := by
    rw [li_12, li_1, iI_add, iI_sub]
    exact iI_rem (by omega) (by omega) (by omega) (by omega)
  have e1 : iI u - 1 = iI (u - 1) := iI_sub u 1
  simp only [e0, e1]
  have hx : (nx + 12 - 1) % 12 = 0 ∨ (nx + 12 - 1) % 12 = 1 ∨ (nx + 12 - 1) % 12 = 2 ∨ (nx + 12 - 1) % 12 = 3 ∨ (nx + 12 - 1) % 12 = 4 ∨ (nx + 12 - 1) % 12 = 5 ∨ (nx + 12 - 1) % 12 = 6 ∨ (nx + 12 - 1) % 12 = 7 ∨ (nx + 12 - 1) % 12 = 8 ∨ (nx + 12 - 1) % 12 = 9 ∨ (nx + 12 - 1) % 12 = 10 ∨ (nx + 12 - 1) % 12 = 11 := by omega
  rcases hx with h | h | h | h | h | h | h | h | h | h | h | h
  · have e := key 0 h; simp (disch := omega) only [li_0, li_1, li_2, li_3, li_4, li_5, li_6, li_7, li_8, li_9, li_10, li_11, iI_eq, if_pos, if_neg, if_true, if_false]; exact e
  · have e := key 1 h; simp (disch := omega) only [li_0, li_1, li_2, li_3, li_4, li_5, li_6, li_7, li_8, li_9, li_10, li_11, iI_eq, if_pos, if_neg, if_true, if_false]; exact e
  · have e := key 2 h; simp (disch := omega) only [li_0, li_1, li_2, li_3, li_4, li_5, li_6, li_7, li_8, li_9, li_10, li_11, iI_eq, if_pos, if_neg, if_true, if_false]; exact e
  · have e := key 3 h; simp (disch := omega) only [li_0, li_1, li_2, li_3, li_4, li_5, li_6, li_7, li_8, li_9, li_10, li_11, iI_eq, if_pos, if_neg, if_true, if_false]; exact e
  · have e := key 4 h; simp (disch := omega) only [li_0, li_1, li_2, li_3, li_4, li_5, li_6, li_7, li_8, li_9, li_10, li_11, iI_eq, if_pos, if_neg, if_true, if_false]; exact e
  · have e := key 5 h; simp (disch := omega) only [li_0, li_1, li_2, li_3, li_4, li_5, li_6, li_7, li_8, li_9, li_10, li_11, iI_eq, if_pos, if_neg, if_true, if_false]; exact e
  · have e := key 6 h; simp (disch := omega) only [li_0, li_1, li_2, li_3, li_4, li_5, li_6, li_7, li_8, li_9, li_10, li_11, iI_eq, if_pos, if_neg, if_true, if_false]; exact e
  · have e := key 7 h; simp (disch := omega) only [li_0, li_1, li_2, li_3, li_4, li_5, li_6, li_7, li_8, li_9, li_10, li_11, iI_eq, if_pos, if_neg, if_true, if_false]; exact e
  · have e := key 8 h; simp (disch := omega) only [li_0, li_1, li_2, li_3, li_4, li_5, li_6, li_7, li_8, li_9, li_10, li_11, iI_eq, if_pos, if_neg, if_true, if_false]; exact e
  · have e := key 9 h; simp (disch := omega) only [li_0, li_1, li_2, li_3, li_4, li_5, li_6, li_7, li_8, li_9, li_10, li_11, iI_eq, if_pos, if_neg, if_true, if_false]; exact e
  · have e := key 10 h; simp (disch := omega) only [li_0, li_1, li_2, li_3, li_4, li_5, li_6, li_7, li_8, li_9, li_10, li_11, iI_eq, if_pos, if_neg, if_true, if_false]; exact e
  · have e := key 11 h; simp (disch := omega) only [li_0, li_1, li_2, li_3, li_4, li_5, li_6, li_7, li_8, li_9, li_10, li_11, iI_eq, if_pos, if_neg, if_true, if_false]; exact e
theorem m_rem_L {V : Int → Int} : ∀ (m : Nat) (k : Int) (f : Nat) (a : Nat → Int32), 0 ≤ k → k + m = 781 → m < f → Arr 852 a (fun i => if i < k then V (i + 71) else V i) →
    So (fX12_remember_L11 f (iI k) a) (fun o => Arr 852 o (fun i => if i < 781 then V (i + 71) else V i))
  | 0, k, f + 1, a, h0, hk, hf, ha => by
    rw [fX12_remember_L11]
    simp (disch := omega) only [gd_t, so_some, so_bind, so_gd, so_none, Option.bind_some, iI_add, iI_sub, iI_mul, iI_neg, iI_clamp, iI_nat, vin_i, iI_le, iI_lt, iI_eq, mn_i, mx_i, if_true, if_false, if_pos, if_neg, li_0, li_1, li_2, li_3, li_4, li_5, li_6, li_7, li_8, li_9, li_10, li_11, li_12, li_14, li_15, li_16, li_20, li_21, li_24, li_28, li_30, li_31, li_40, li_41, li_42, li_43, li_44, li_45, li_47, li_48, li_49, li_57, li_59, li_60, li_61, li_62, li_63, li_70, li_71, li_76, li_80, li_96, li_97, li_98, li_99, li_100, li_101, li_102, li_103, li_104, li_105, li_106, li_107, li_108, li_109, li_110, li_111, li_112, li_113, li_114, li_115, li_116, li_117, li_118, li_119, li_120, li_128, li_142, li_255, li_320, li_781, li_852, li_999, li_1000, li_2000, li_3000, li_9999, li_12345, li_65536, li_1000000, li_252645135, li_858993459, li_1103515245, li_1431655765]
    have e : k = 781 := by omega
    rw [e] at ha
    exact ha
  | m + 1, k, f + 1, a, h0, hk, hf, ha => by
    rw [fX12_remember_L11]
    simp (disch := omega) only [gd_t, so_some, so_bind, so_gd, so_none, Option.bind_some, iI_add, iI_sub, iI_mul, iI_neg, iI_clamp, iI_nat, vin_i, iI_le, iI_lt, iI_eq, mn_i, mx_i, if_true, if_false, if_pos, if_neg, li_0, li_1, li_2, li_3, li_4, li_5, li_6, li_7, li_8, li_9, li_10, li_11, li_12, li_14, li_15, li_16, li_20, li_21, li_24, li_28, li_30, li_31, li_40, li_41, li_42, li_43, li_44, li_45, li_47, li_48, li_49, li_57, li_59, li_60, li_61, li_62, li_63, li_70, li_71, li_76, li_80, li_96, li_97, li_98, li_99, li_100, li_101, li_102, li_103, li_104, li_105, li_106, li_107, li_108, li_109, li_110, li_111, li_112, li_113, li_114, li_115, li_116, li_117, li_118, li_119, li_120, li_128, li_142, li_255, li_320, li_781, li_852, li_999, li_1000, li_2000, li_3000, li_9999, li_12345, li_65536, li_1000000, li_252645135, li_858993459, li_1103515245, li_1431655765, ha.at]
    refine m_rem_L m (k + 1) f _ (by omega) (by omega) (by omega) ?_
    refine (ha.up _ h0).congr (fun x x0 x1 => ?_)
    by_cases hx : x = k
    · subst hx
      rw [upI_s, if_pos (by omega)]
    · rw [upI_o _ hx]
      by_cases h2 : x < k
      · rw [if_pos h2, if_pos (by omega)]
      · rw [if_neg h2, if_neg (by omega)]
theorem m_remember {U : Int → Int → Int} {u : Int} {many : Int32} {undos : Nat → Int32} (H : HsM U u many undos) {A : Int → Int} {a : Nat → Int32} (ha : Arr 71 a A) :
    So (fX12_remember 71 many undos a) (fun o => HsM (puU U u A) (puN u) o.1 o.2) := by
  obtain ⟨u0, u1, rfl, h⟩ := H
  have key : ∀ (v : Int) (b : Nat → Int32) (V : Int → Int → Int), 0 ≤ v → v ≤ 11 → (∀ j i, 0 ≤ j → j < v → 0 ≤ i → i < 71 → b (71 * j + i).toNat = iI (V j i)) →
      So (fX12_remember_J49 71 a (iI v) b) (fun o => o.1 = iI (v + 1) ∧ ∀ j i, 0 ≤ j → j < v + 1 → 0 ≤ i → i < 71 → o.2 (71 * j + i).toNat = iI ((if j = v then A else V j) i)) := by
    intro v b V v0 v1 hb
    unfold fX12_remember_J49
    simp only [li_0, li_1, li_2, li_3, li_4, li_5, li_6, li_7, li_8, li_9, li_10, li_11, li_12, li_14, li_15, li_16, li_20, li_21, li_24, li_28, li_30, li_31, li_40, li_41, li_42, li_43, li_44, li_45, li_47, li_48, li_49, li_57, li_59, li_60, li_61, li_62, li_63, li_70, li_71, li_76, li_80, li_96, li_97, li_98, li_99, li_100, li_101, li_102, li_103, li_104, li_105, li_106, li_107, li_108, li_109, li_110, li_111, li_112, li_113, li_114, li_115, li_116, li_117, li_118, li_119, li_120, li_128, li_142, li_255, li_320, li_781, li_852, li_999, li_1000, li_2000, li_3000, li_9999, li_12345, li_65536, li_1000000, li_252645135, li_858993459, li_1103515245, li_1431655765, iI_mul, so_bind]
    refine so_mono (m_lay (n := 852) ha (arr_any 852 b) (p := 71 * v) (by omega) (by omega) (by omega)) ?_
    intro o ho
    rw [so_some, iI_add]
    refine ⟨rfl, fun j i j0 j1 i0 i1 => ?_⟩
    show o _ = _
    rw [ho.at (by omega) (by omega)]
    by_cases q : j = v
    · subst q
      rw [if_pos (by omega), if_pos rfl]
      congr 2
      omega
    · rw [if_neg (by omega), if_neg q, ← hb j i j0 (by omega) i0 i1]
      exact Int32.ofInt_toInt _
  unfold fX12_remember
  simp (disch := omega) only [li_0, li_1, li_2, li_3, li_4, li_5, li_6, li_7, li_8, li_9, li_10, li_11, li_12, li_14, li_15, li_16, li_20, li_21, li_24, li_28, li_30, li_31, li_40, li_41, li_42, li_43, li_44, li_45, li_47, li_48, li_49, li_57, li_59, li_60, li_61, li_62, li_63, li_70, li_71, li_76, li_80, li_96, li_97, li_98, li_99, li_100, li_101, li_102, li_103, li_104, li_105, li_106, li_107, li_108, li_109, li_110, li_111, li_112, li_113, li_114, li_115, li_116, li_117, li_118, li_119, li_120, li_128, li_142, li_255, li_320, li_781, li_852, li_999, li_1000, li_2000, li_3000, li_9999, li_12345, li_65536, li_1000000, li_252645135, li_858993459, li_1103515245, li_1431655765, iI_eq]
  by_cases q : u = 12
  · rw [if_pos q, so_bind]
    subst q
    refine so_mono (m_rem_L (V := fun x => (undos x.toNat).toInt) 781 0 FU undos (by omega) (by omega) (show _ < 4000 by omega) ((arr_any 852 undos).congr (fun x x0 x1 => by first | rw [if_neg (by omega)] | rfl))) ?_
    intro b hb
    rw [iI_sub]
    refine so_mono (key (12 - 1) b (fun j => U (j + 1)) (by omega) (by omega) (fun j i j0 j1 i0 i1 => ?_)) ?_
    · rw [hb.at (by omega) (by omega), if_pos (by omega), ← h (j + 1) i (by omega) (by omega) i0 i1]
      rw [show 71 * j + i + 71 = 71 * (j + 1) + i by omega]
      exact Int32.ofInt_toInt _
    · rintro o ⟨o1, o2⟩
      refine ⟨by unfold puN; omega, by unfold puN; omega, by rw [o1]; rfl, fun j i j0 j1 i0 i1 => ?_⟩
      rw [o2 j i j0 (by unfold puN at j1; omega) i0 i1]
      rfl
  · rw [if_neg q]
    refine so_mono (key u undos U u0 (by omega) h) ?_
    rintro o ⟨o1, o2⟩
    refine ⟨by unfold puN; omega, by unfold puN; omega, by rw [o1]; unfold puN; congr 1; omega, fun j i j0 j1 i0 i1 => ?_⟩
    rw [o2 j i j0 (by unfold puN at j1; omega) i0 i1]
    unfold puU
    rw [if_neg q]
