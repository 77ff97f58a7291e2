/-! rests -/
theorem m_slide_a {E : EN} (G : EnG E) {ho many size : Int32} {hold below weather rule : Nat → Int32} (M : EnM E ho many size hold below weather rule) {A : Int → Int} (hA : WA A) (hn : A 70 < 2147483648) {a : Nat → Int32} (h1 : Arr 71 a A) (owedBy : Nat → Int32) (rr : Nat) (len top at' wrong asked i1 i2 i3 i4 i5 i6 sm on si : Int32)
    {s bl x : Int} (hs : 0 ≤ s) (hs2 : s < 2 * E.1) (hb : 0 ≤ bl) (hb2 : bl < E.1) :
    So (fX12_slide 71 ho many rr len top at' wrong size asked i1 i2 i3 i4 i5 i6 sm on si below rule hold weather owedBy a (iI s) (iI bl) (iI x)) (fun o => Arr 71 o.2.2.2.2.2.2.2.2.2.2.2.2.2.2.2.2 (slA E A s bl x)) := by
  obtain ⟨S, rfl, -, -⟩ := iI_of sm
  obtain ⟨O, rfl, -, -⟩ := iI_of on
  refine so_mono (m_slide G M hA hn h1 (arr_any 7 owedBy) hs hs2 hb hb2) ?_
  intro o ho
  exact ho.2.2.2.2
def btr (E : EN) (A : Int → Int) (s n : Int) : Prop := A s ≠ 0 ∧ obS E A s n < obL E A s n
theorem c_isBetter {E : EN} (G : EnG E) {ho cy le : Int32} {hold below inches code : Nat → Int32} (C : EnC E ho cy le hold below inches code) {A : Int → Int} (hA : WA A) {s n : Int} (hs : 0 ≤ s) (hs2 : s < 2 * E.1) (hn0 : 1 ≤ n) (hn1 : n ≤ 60) (hn : A 70 + n < 2147483648)
    {now : Int32} {snow path debt : Nat → Int32} (S : StC A now snow path debt) (o0 s0 t0 d0 n0 : Int32) (sn0 p0 de0 b0 things stack : Nat → Int32) :
    So (fX11_isBetterLoose now snow o0 s0 t0 d0 n0 ho le cy sn0 p0 de0 b0 below things inches hold stack code path debt (iI s) (iI n)) (fun o => (o.1 = iI 1 ∧ btr E A s n) ∨ (o.1 = iI 0 ∧ ¬ btr E A s n)) := by
  have g := G.1
  have a := hA.1 s hs (by omega)
  have h1 := S.2.1
  have x1 := obS_b G A s n (by omega)
  have x2 := obL_b G A s n (by omega)
  unfold fX11_isBetterLoose btr
  by_cases q : A s ≤ 0
  · simp (disch := omega) only [gd_t, so_some, so_bind, so_gd, so_none, Option.bind_some, iI_add, iI_sub, iI_mul, iI_neg, iI_clamp, iI_nat, vin_i, iI_le, iI_lt, iI_eq, mn_i, mx_i, if_true, if_false, if_pos, if_neg, li_0, li_1, li_2, li_3, li_4, li_5, li_6, li_7, li_8, li_9, li_10, li_11, li_12, li_14, li_15, li_16, li_20, li_21, li_24, li_28, li_30, li_31, li_40, li_41, li_42, li_43, li_44, li_45, li_47, li_48, li_49, li_57, li_59, li_60, li_61, li_62, li_63, li_70, li_71, li_76, li_80, li_96, li_97, li_98, li_99, li_100, li_101, li_102, li_103, li_104, li_105, li_106, li_107, li_108, li_109, li_110, li_111, li_112, li_113, li_114, li_115, li_116, li_117, li_118, li_119, li_120, li_128, li_142, li_255, li_320, li_781, li_852, li_999, li_1000, li_2000, li_3000, li_9999, li_12345, li_65536, li_1000000, li_252645135, li_858993459, li_1103515245, li_1431655765, h1.at]
    exact Or.inr ⟨(by first | rfl | trivial), fun z => by omega⟩
  · simp (disch := omega) only [gd_t, so_some, so_bind, so_gd, so_none, Option.bind_some, iI_add, iI_sub, iI_mul, iI_neg, iI_clamp, iI_nat, vin_i, iI_le, iI_lt, iI_eq, mn_i, mx_i, if_true, if_false, if_pos, if_neg, li_0, li_1, li_2, li_3, li_4, li_5, li_6, li_7, li_8, li_9, li_10, li_11, li_12, li_14, li_15, li_16, li_20, li_21, li_24, li_28, li_30, li_31, li_40, li_41, li_42, li_43, li_44, li_45, li_47, li_48, li_49, li_57, li_59, li_60, li_61, li_62, li_63, li_70, li_71, li_76, li_80, li_96, li_97, li_98, li_99, li_100, li_101, li_102, li_103, li_104, li_105, li_106, li_107, li_108, li_109, li_110, li_111, li_112, li_113, li_114, li_115, li_116, li_117, li_118, li_119, li_120, li_128, li_142, li_255, li_320, li_781, li_852, li_999, li_1000, li_2000, li_3000, li_9999, li_12345, li_65536, li_1000000, li_252645135, li_858993459, li_1103515245, li_1431655765, h1.at]
    refine so_mono (c_owedFrom G C hA hs hs2 (n := n) (by omega) (by omega) hn S o0 s0 t0 d0 n0 sn0 p0 de0 b0 things stack (x := 1) (Or.inr rfl)) ?_
    intro o ho
    refine so_mono (c_owedFrom G C hA hs hs2 (n := n) (by omega) (by omega) hn S _ _ _ _ _ _ _ _ _ _ _ (x := 0) (Or.inl rfl)) ?_
    intro p hp
    rw [if_neg (by omega)] at ho
    rw [if_pos rfl] at hp
    rw [ho, hp]
    by_cases w : obL E A s n ≤ obS E A s n
    · simp (disch := omega) only [gd_t, so_some, so_bind, so_gd, so_none, Option.bind_some, iI_add, iI_sub, iI_mul, iI_neg, iI_clamp, iI_nat, vin_i, iI_le, iI_lt, iI_eq, mn_i, mx_i, if_true, if_false, if_pos, if_neg, li_0, li_1, li_2, li_3, li_4, li_5, li_6, li_7, li_8, li_9, li_10, li_11, li_12, li_14, li_15, li_16, li_20, li_21, li_24, li_28, li_30, li_31, li_40, li_41, li_42, li_43, li_44, li_45, li_47, li_48, li_49, li_57, li_59, li_60, li_61, li_62, li_63, li_70, li_71, li_76, li_80, li_96, li_97, li_98, li_99, li_100, li_101, li_102, li_103, li_104, li_105, li_106, li_107, li_108, li_109, li_110, li_111, li_112, li_113, li_114, li_115, li_116, li_117, li_118, li_119, li_120, li_128, li_142, li_255, li_320, li_781, li_852, li_999, li_1000, li_2000, li_3000, li_9999, li_12345, li_65536, li_1000000, li_252645135, li_858993459, li_1103515245, li_1431655765]
      exact Or.inr ⟨(by first | rfl | trivial), fun z => by omega⟩
    · simp (disch := omega) only [gd_t, so_some, so_bind, so_gd, so_none, Option.bind_some, iI_add, iI_sub, iI_mul, iI_neg, iI_clamp, iI_nat, vin_i, iI_le, iI_lt, iI_eq, mn_i, mx_i, if_true, if_false, if_pos, if_neg, li_0, li_1, li_2, li_3, li_4, li_5, li_6, li_7, li_8, li_9, li_10, li_11, li_12, li_14, li_15, li_16, li_20, li_21, li_24, li_28, li_30, li_31, li_40, li_41, li_42, li_43, li_44, li_45, li_47, li_48, li_49, li_57, li_59, li_60, li_61, li_62, li_63, li_70, li_71, li_76, li_80, li_96, li_97, li_98, li_99, li_100, li_101, li_102, li_103, li_104, li_105, li_106, li_107, li_108, li_109, li_110, li_111, li_112, li_113, li_114, li_115, li_116, li_117, li_118, li_119, li_120, li_128, li_142, li_255, li_320, li_781, li_852, li_999, li_1000, li_2000, li_3000, li_9999, li_12345, li_65536, li_1000000, li_252645135, li_858993459, li_1103515245, li_1431655765]
      exact Or.inl ⟨(by first | rfl | trivial), by omega⟩
/-- what a round of rests() keeps -/
def rsI (v0 : Int32) (a7 : Int) (v : Int32) (r : Int) (A : Int → Int) : Prop :=
  WA A ∧ A 70 = a7 ∧ (∀ j : Nat, j < 14 → bt v j = true → A j = 0) ∧ (∀ j : Nat, bt v0 j = true → bt v j = true) ∧ ((r = 1 ∧ v = v0) ∨ (r = 0 ∧ ∃ j : Nat, bt v j = true ∧ bt v0 j = false))
theorem rsI_S {E : EN} (G : EnG E) {v0 v : Int32} {a7 r : Int} {A : Int → Int} (I : rsI v0 a7 v r A) {k : Int} (k0 : 0 ≤ k) (k1 : k < 2 * E.1) (hk : A k ≠ 0) : rsI v0 a7 (v ||| (1 <<< (iI k &&& 31))) 0 (slA E A k (k / 2) 1) := by
  obtain ⟨i1, i2, i3, i4, i5⟩ := I
  have g := G.1
  have bl := G.2.2.1 k k0 k1
  refine ⟨wa_sl G i1 k0 k1 (by omega) (by omega), ?_, fun j hj hb => ?_, fun j hj => ?_, Or.inr ⟨rfl, k.toNat, ?_, ?_⟩⟩
  · rw [slA_70 G k0 k1 (by omega) (by omega)]; exact i2
  · by_cases w : (j : Int) = k
    · rw [w]; exact slA_s G k0 k1 (by omega)
    · rw [slA_hi w (by omega) (by omega)]
      rw [bt_or, bt_one k0 (by omega) (by omega), decide_eq_false w, Bool.or_false] at hb
      exact i3 j hj hb
  · rw [bt_or, i4 j hj, Bool.true_or]
  · rw [bt_or, bt_one k0 (by omega) (by omega), decide_eq_true (by omega), Bool.or_true]
  · cases hx : bt v0 k.toNat with
    | false => rfl
    | true =>
      have := i3 k.toNat (by omega) (i4 _ hx)
      rw [show ((k.toNat : Nat) : Int) = k by omega] at this
      exact absurd this hk
theorem s_rests_L {E : EN} (G : EnG E) {hoC cy le : Int32} {hold below inches code : Nat → Int32} (C : EnC E hoC cy le hold below inches code) {hoM many size : Int32} {holdM belowM weather rule : Nat → Int32} (M : EnM E hoM many size holdM belowM weather rule) {N a7 : Int} (N0 : 1 ≤ N) (hN : N ≤ 30) (a70 : a7 + 60 < 2147483648) {v0 : Int32} :
    ∀ (m : Nat) (k : Int) (f : Nat) (v : Int32) (r : Int) (A : Int → Int) (ow : Int32) (snow path debt ob : Nat → Int32) (owed slides struck slid now : Int32) (sn pa de owedBy things stack : Nat → Int32) (rr : Nat) (len top at' wrong asked i1 i2 i3 i4 i5 i6 sm on si so ll : Int32) (tr oM th : Nat → Int32),
    0 ≤ k → k + m = 2 * E.1 → m < f → rsI v0 a7 v r A → StC A (iI a7) snow path debt → Arr 71 tr A →
    So (fX11_rests_L53 hoC le cy below inches hold code (iI N) (iI a7) f v (iI k) ow snow path debt ob owed slides struck slid now sn pa de owedBy things stack)
      (fun o => So (fX12_rests_L66 hoM many size belowM rule holdM weather (iI N) f v (iI r) (iI k) rr len top at' wrong asked i1 i2 i3 i4 i5 i6 sm on si so ll tr oM th) (fun p => ∃ (v' : Int32) (r' : Int) (A' : Int → Int), rsI v0 a7 v' r' A' ∧ o.1 = v' ∧ p.1 = v' ∧ p.2.1 = iI r' ∧ StC A' (iI a7) o.2.2.1 o.2.2.2.1 o.2.2.2.2.1 ∧ Arr 71 p.2.2.2.2.2.2.2.2.2.2.2.2.2.2.2.2.2.2.2.1 A'))
  | 0, k, f + 1, v, r, A, ow, snow, path, debt, ob, owed, slides, struck, slid, now, sn, pa, de, owedBy, things, stack, rr, len, top, at', wrong, asked, i1, i2, i3, i4, i5, i6, sm, on, si, so, ll, tr, oM, th, k0, hk, hf, I, S, T => by
    have g := G.1
    rw [fX11_rests_L53, fX12_rests_L66, C.1, M.1]
    simp (disch := omega) only [gd_t, so_some, so_bind, so_gd, so_none, Option.bind_some, iI_add, iI_sub, iI_mul, iI_neg, iI_clamp, iI_nat, vin_i, iI_le, iI_lt, iI_eq, mn_i, mx_i, if_true, if_false, if_pos, if_neg, li_0, li_1, li_2, li_3, li_4, li_5, li_6, li_7, li_8, li_9, li_10, li_11, li_12, li_14, li_15, li_16, li_20, li_21, li_24, li_28, li_30, li_31, li_40, li_41, li_42, li_43, li_44, li_45, li_47, li_48, li_49, li_57, li_59, li_60, li_61, li_62, li_63, li_70, li_71, li_76, li_80, li_96, li_97, li_98, li_99, li_100, li_101, li_102, li_103, li_104, li_105, li_106, li_107, li_108, li_109, li_110, li_111, li_112, li_113, li_114, li_115, li_116, li_117, li_118, li_119, li_120, li_128, li_142, li_255, li_320, li_781, li_852, li_999, li_1000, li_2000, li_3000, li_9999, li_12345, li_65536, li_1000000, li_252645135, li_858993459, li_1103515245, li_1431655765]
    exact ⟨v, r, A, I, rfl, rfl, rfl, S, T⟩
  | m + 1, k, f + 1, v, r, A, ow, snow, path, debt, ob, owed, slides, struck, slid, now, sn, pa, de, owedBy, things, stack, rr, len, top, at', wrong, asked, i1, i2, i3, i4, i5, i6, sm, on, si, so, ll, tr, oM, th, k0, hk, hf, I, S, T => by
    have g := G.1
    have a := I.1.1 k k0 (by omega)
    have dv : iI k / iI 2 = iI (k / 2) := iI_div2 k0 (by omega)
    have i7 := I.2.1
    rw [fX11_rests_L53, fX12_rests_L66]
    have e1 : ((2 : Int32) * hoC ≤ iI k) = False := by
      rw [C.1]
      simp (disch := omega) only [gd_t, so_some, so_bind, so_gd, so_none, Option.bind_some, iI_add, iI_sub, iI_mul, iI_neg, iI_clamp, iI_nat, vin_i, iI_le, iI_lt, iI_eq, mn_i, mx_i, if_true, if_false, if_pos, if_neg, li_0, li_1, li_2, li_3, li_4, li_5, li_6, li_7, li_8, li_9, li_10, li_11, li_12, li_14, li_15, li_16, li_20, li_21, li_24, li_28, li_30, li_31, li_40, li_41, li_42, li_43, li_44, li_45, li_47, li_48, li_49, li_57, li_59, li_60, li_61, li_62, li_63, li_70, li_71, li_76, li_80, li_96, li_97, li_98, li_99, li_100, li_101, li_102, li_103, li_104, li_105, li_106, li_107, li_108, li_109, li_110, li_111, li_112, li_113, li_114, li_115, li_116, li_117, li_118, li_119, li_120, li_128, li_142, li_255, li_320, li_781, li_852, li_999, li_1000, li_2000, li_3000, li_9999, li_12345, li_65536, li_1000000, li_252645135, li_858993459, li_1103515245, li_1431655765]
      exact eq_false (by omega)
    have e2 : ((2 : Int32) * hoM ≤ iI k) = False := by
      rw [M.1]
      simp (disch := omega) only [gd_t, so_some, so_bind, so_gd, so_none, Option.bind_some, iI_add, iI_sub, iI_mul, iI_neg, iI_clamp, iI_nat, vin_i, iI_le, iI_lt, iI_eq, mn_i, mx_i, if_true, if_false, if_pos, if_neg, li_0, li_1, li_2, li_3, li_4, li_5, li_6, li_7, li_8, li_9, li_10, li_11, li_12, li_14, li_15, li_16, li_20, li_21, li_24, li_28, li_30, li_31, li_40, li_41, li_42, li_43, li_44, li_45, li_47, li_48, li_49, li_57, li_59, li_60, li_61, li_62, li_63, li_70, li_71, li_76, li_80, li_96, li_97, li_98, li_99, li_100, li_101, li_102, li_103, li_104, li_105, li_106, li_107, li_108, li_109, li_110, li_111, li_112, li_113, li_114, li_115, li_116, li_117, li_118, li_119, li_120, li_128, li_142, li_255, li_320, li_781, li_852, li_999, li_1000, li_2000, li_3000, li_9999, li_12345, li_65536, li_1000000, li_252645135, li_858993459, li_1103515245, li_1431655765]
      exact eq_false (by omega)
    simp only [e1, e2, if_false, so_bind]
    refine so_mono (c_isBetter G C I.1 k0 (by omega) N0 (by omega) (by omega) S owed slides struck slid now sn pa de owedBy things stack) ?_
    intro o ho
    rcases ho with ⟨ho, hb⟩ | ⟨ho, hb⟩
    · obtain ⟨cp, hcp, cp1, cp2⟩ := m_compare G M I.1 k0 (by omega) (n := N) (by omega) (by omega) (by omega) T rr len top at' wrong asked i1 i2 i3 i4 i5 i6 sm on si so ll oM th
      obtain ⟨sl, hsl, slT⟩ := m_slide_a G M I.1 (by omega) T cp.2.2.2.2.2.2.2.2.2.2.2.2.2.2.2.2.2.1 cp.1 cp.2.1 cp.2.2.1 cp.2.2.2.1 cp.2.2.2.2.1 cp.2.2.2.2.2.1 cp.2.2.2.2.2.2.1 cp.2.2.2.2.2.2.2.1 cp.2.2.2.2.2.2.2.2.1 cp.2.2.2.2.2.2.2.2.2.1 cp.2.2.2.2.2.2.2.2.2.2.1 cp.2.2.2.2.2.2.2.2.2.2.2.1 cp.2.2.2.2.2.2.2.2.2.2.2.2.1 cp.2.2.2.2.2.2.2.2.2.2.2.2.2.1 cp.2.2.2.2.2.2.2.2.2.2.2.2.2.2.1 (s := k) (bl := k / 2) (x := 1) k0 (by omega) (by omega) (by omega)
      obtain ⟨OW, hOW, -, -⟩ := iI_of ow
      have x1 := obS_b G A k N (by omega)
      have x2 := obL_b G A k N (by omega)
      have q1 := hb.1
      have q2 := hb.2
      have hcl := c_slide G C I.1 (by omega) S.2.1 S.2.2.1 S.2.2.2 (arr_any 7 ob) (ow := OW) (s := k) (bl := k / 2) (x := 1) (things := o.2.2.2.2.2.2.2.2.2.2.1) (stack := o.2.2.2.2.2.2.2.2.2.2.2) k0 (by omega) (by omega) (by omega) (Or.inr rfl)
      rw [i7, ← hOW] at hcl
      simp (disch := omega) only [gd_t, so_some, so_bind, so_gd, so_none, Option.bind_some, iI_add, iI_sub, iI_mul, iI_neg, iI_clamp, iI_nat, vin_i, iI_le, iI_lt, iI_eq, mn_i, mx_i, if_true, if_false, if_pos, if_neg, li_0, li_1, li_2, li_3, li_4, li_5, li_6, li_7, li_8, li_9, li_10, li_11, li_12, li_14, li_15, li_16, li_20, li_21, li_24, li_28, li_30, li_31, li_40, li_41, li_42, li_43, li_44, li_45, li_47, li_48, li_49, li_57, li_59, li_60, li_61, li_62, li_63, li_70, li_71, li_76, li_80, li_96, li_97, li_98, li_99, li_100, li_101, li_102, li_103, li_104, li_105, li_106, li_107, li_108, li_109, li_110, li_111, li_112, li_113, li_114, li_115, li_116, li_117, li_118, li_119, li_120, li_128, li_142, li_255, li_320, li_781, li_852, li_999, li_1000, li_2000, li_3000, li_9999, li_12345, li_65536, li_1000000, li_252645135, li_858993459, li_1103515245, li_1431655765, ho, T.at, hcp, dv, cp1, cp2, hsl]
      refine so_mono hcl ?_
      rintro t ⟨t1, t2, t3, t4, t5⟩
      exact s_rests_L G C M N0 hN a70 m (k + 1) f _ 0 (slA E A k (k / 2) 1) _ _ _ _ _ _ _ _ _ _ _ _ _ _ _ _ _ _ _ _ _ _ _ _ _ _ _ _ _ _ _ _ _ _ _ _ (by omega) (by omega) (by omega) (rsI_S G I k0 (by omega) q1) ⟨by rw [slA_70 G k0 (by omega) (by omega) (by omega), i7], t2, t3, t4⟩ slT
    · by_cases q : A k = 0
      · simp (disch := omega) only [gd_t, so_some, so_bind, so_gd, so_none, Option.bind_some, iI_add, iI_sub, iI_mul, iI_neg, iI_clamp, iI_nat, vin_i, iI_le, iI_lt, iI_eq, mn_i, mx_i, if_true, if_false, if_pos, if_neg, li_0, li_1, li_2, li_3, li_4, li_5, li_6, li_7, li_8, li_9, li_10, li_11, li_12, li_14, li_15, li_16, li_20, li_21, li_24, li_28, li_30, li_31, li_40, li_41, li_42, li_43, li_44, li_45, li_47, li_48, li_49, li_57, li_59, li_60, li_61, li_62, li_63, li_70, li_71, li_76, li_80, li_96, li_97, li_98, li_99, li_100, li_101, li_102, li_103, li_104, li_105, li_106, li_107, li_108, li_109, li_110, li_111, li_112, li_113, li_114, li_115, li_116, li_117, li_118, li_119, li_120, li_128, li_142, li_255, li_320, li_781, li_852, li_999, li_1000, li_2000, li_3000, li_9999, li_12345, li_65536, li_1000000, li_252645135, li_858993459, li_1103515245, li_1431655765, ho, T.at]
        exact s_rests_L G C M N0 hN a70 m (k + 1) f v r A _ _ _ _ _ _ _ _ _ _ _ _ _ _ _ _ _ _ _ _ _ _ _ _ _ _ _ _ _ _ _ _ _ _ _ _ (by omega) (by omega) (by omega) I S T
      · obtain ⟨cp, hcp, cp1, cp2⟩ := m_compare G M I.1 k0 (by omega) (n := N) (by omega) (by omega) (by omega) T rr len top at' wrong asked i1 i2 i3 i4 i5 i6 sm on si so ll oM th
        have x1 := obS_b G A k N (by omega)
        have x2 := obL_b G A k N (by omega)
        have q2 : obL E A k N ≤ obS E A k N := by
          by_cases w : obS E A k N < obL E A k N
          · exact absurd ⟨q, w⟩ hb
          · omega
        simp (disch := omega) only [gd_t, so_some, so_bind, so_gd, so_none, Option.bind_some, iI_add, iI_sub, iI_mul, iI_neg, iI_clamp, iI_nat, vin_i, iI_le, iI_lt, iI_eq, mn_i, mx_i, if_true, if_false, if_pos, if_neg, li_0, li_1, li_2, li_3, li_4, li_5, li_6, li_7, li_8, li_9, li_10, li_11, li_12, li_14, li_15, li_16, li_20, li_21, li_24, li_28, li_30, li_31, li_40, li_41, li_42, li_43, li_44, li_45, li_47, li_48, li_49, li_57, li_59, li_60, li_61, li_62, li_63, li_70, li_71, li_76, li_80, li_96, li_97, li_98, li_99, li_100, li_101, li_102, li_103, li_104, li_105, li_106, li_107, li_108, li_109, li_110, li_111, li_112, li_113, li_114, li_115, li_116, li_117, li_118, li_119, li_120, li_128, li_142, li_255, li_320, li_781, li_852, li_999, li_1000, li_2000, li_3000, li_9999, li_12345, li_65536, li_1000000, li_252645135, li_858993459, li_1103515245, li_1431655765, ho, T.at, hcp, cp1, cp2]
        rw [← cp1, ← cp2]
        exact s_rests_L G C M N0 hN a70 m (k + 1) f v r A _ _ _ _ _ _ _ _ _ _ _ _ _ _ _ _ _ _ _ _ _ _ _ _ _ _ _ _ _ _ _ _ _ _ _ _ (by omega) (by omega) (by omega) I S T
theorem s_rests_O {E : EN} (G : EnG E) {hoC cy le : Int32} {hold below inches code : Nat → Int32} (C : EnC E hoC cy le hold below inches code) {hoM many size : Int32} {holdM belowM weather rule : Nat → Int32} (M : EnM E hoM many size holdM belowM weather rule) {N a7 Q : Int} (N0 : 1 ≤ N) (hN : N ≤ 30) (a70 : a7 + 60 < 2147483648) (hQ : Q ≤ 20) (tc y1 y2 y3 : Int32) (told : Nat → Int32) :
    ∀ (m : Nat) (k : Int) (f : Nat) (v : Int32) (A : Int → Int) (ow : Int32) (snow path debt ob : Nat → Int32) (owed slides struck slid now : Int32) (sn pa de owedBy things stack : Nat → Int32) (rr : Nat) (len top at' wrong asked i1 i2 i3 i4 i5 i6 sm on si so ll : Int32) (tr oM th : Nat → Int32),
    1 ≤ k → k + m = Q + 1 → m + 1 < f → WA A → A 70 = a7 → (∀ j : Nat, j < 14 → bt v j = true → A j = 0) → StC A (iI a7) snow path debt → Arr 71 tr A →
    So (fX11_rests_L41 hoC le cy below inches hold code (iI N) (iI Q) tc y1 y2 y3 (iI a7) told f v (iI k) ow snow path debt ob owed slides struck slid now sn pa de owedBy things stack)
      (fun o => So (fX12_rests_L47 hoM many size belowM rule holdM weather (iI N) (iI Q) f (iI (k - 1)) v (iI 0) rr len top at' wrong asked i1 i2 i3 i4 i5 i6 sm on si so ll tr oM th) (fun p => (∃ x, o = Sum.inl x ∧ x.1 = p.2.1 ∧ p.1 = iI Q ∧ p.2.2.1 = iI 0) ∨ (∃ x, o = Sum.inr x ∧ x.1 = p.1 ∧ Rw [iI 1, p.2.1] x.2.1 x.2.2.2.2.2.2.2.2.2.2.2.2.2.2.2.2.2.2.2.2.2.2 ∧ p.2.2.1 = iI 1)))
  | 0, k, f + 1, v, A, ow, snow, path, debt, ob, owed, slides, struck, slid, now, sn, pa, de, owedBy, things, stack, rr, len, top, at', wrong, asked, i1, i2, i3, i4, i5, i6, sm, on, si, so, ll, tr, oM, th, k0, hk, hf, hA, h7, hv, S, T => by
    rw [fX11_rests_L41, fX12_rests_L47]
    simp (disch := omega) only [gd_t, so_some, so_bind, so_gd, so_none, Option.bind_some, iI_add, iI_sub, iI_mul, iI_neg, iI_clamp, iI_nat, vin_i, iI_le, iI_lt, iI_eq, mn_i, mx_i, if_true, if_false, if_pos, if_neg, li_0, li_1, li_2, li_3, li_4, li_5, li_6, li_7, li_8, li_9, li_10, li_11, li_12, li_14, li_15, li_16, li_20, li_21, li_24, li_28, li_30, li_31, li_40, li_41, li_42, li_43, li_44, li_45, li_47, li_48, li_49, li_57, li_59, li_60, li_61, li_62, li_63, li_70, li_71, li_76, li_80, li_96, li_97, li_98, li_99, li_100, li_101, li_102, li_103, li_104, li_105, li_106, li_107, li_108, li_109, li_110, li_111, li_112, li_113, li_114, li_115, li_116, li_117, li_118, li_119, li_120, li_128, li_142, li_255, li_320, li_781, li_852, li_999, li_1000, li_2000, li_3000, li_9999, li_12345, li_65536, li_1000000, li_252645135, li_858993459, li_1103515245, li_1431655765]
    exact Or.inl ⟨_, rfl, rfl, by rw [show k - 1 = Q by omega], (by first | rfl | trivial)⟩
  | m + 1, k, f + 1, v, A, ow, snow, path, debt, ob, owed, slides, struck, slid, now, sn, pa, de, owedBy, things, stack, rr, len, top, at', wrong, asked, i1, i2, i3, i4, i5, i6, sm, on, si, so, ll, tr, oM, th, k0, hk, hf, hA, h7, hv, S, T => by
    have g := G.1
    have L := s_rests_L G C M N0 hN a70 (v0 := v) (2 * E.1).toNat 0 FU v 1 A ow snow path debt ob owed slides struck slid now sn pa de owedBy things stack rr len top at' wrong asked i1 i2 i3 i4 i5 i6 sm on si so ll tr oM th (by omega) (by omega) (show _ < 4000 by omega) ⟨hA, h7, hv, fun j hj => hj, Or.inl ⟨rfl, rfl⟩⟩ S T
    rw [fX11_rests_L41, fX12_rests_L47]
    simp (disch := omega) only [gd_t, so_some, so_bind, so_gd, so_none, Option.bind_some, iI_add, iI_sub, iI_mul, iI_neg, iI_clamp, iI_nat, vin_i, iI_le, iI_lt, iI_eq, mn_i, mx_i, if_true, if_false, if_pos, if_neg, li_0, li_1, li_2, li_3, li_4, li_5, li_6, li_7, li_8, li_9, li_10, li_11, li_12, li_14, li_15, li_16, li_20, li_21, li_24, li_28, li_30, li_31, li_40, li_41, li_42, li_43, li_44, li_45, li_47, li_48, li_49, li_57, li_59, li_60, li_61, li_62, li_63, li_70, li_71, li_76, li_80, li_96, li_97, li_98, li_99, li_100, li_101, li_102, li_103, li_104, li_105, li_106, li_107, li_108, li_109, li_110, li_111, li_112, li_113, li_114, li_115, li_116, li_117, li_118, li_119, li_120, li_128, li_142, li_255, li_320, li_781, li_852, li_999, li_1000, li_2000, li_3000, li_9999, li_12345, li_65536, li_1000000, li_252645135, li_858993459, li_1103515245, li_1431655765]
    refine so_mono L ?_
    rintro o ⟨p, hp, v', r', A', I, o1, p1, p2, S', T'⟩
    simp only [hp, so_bind, so_some, Option.bind_some]
    obtain ⟨w1, w2, w3, w4, w5⟩ := I
    rcases w5 with ⟨rfl, rfl⟩ | ⟨rfl, j, j1, j2⟩
    · rw [if_pos o1]
      obtain ⟨f, rfl⟩ : ∃ f', f = f' + 1 := ⟨f - 1, by omega⟩
      rw [fX12_rests_L47, p2, p1, show k - 1 + 1 = k by omega]
      simp only [so_bind]
      refine so_mono (c_tell2 _ _ _ _) ?_
      intro t ht
      rw [o1] at ht
      by_cases q : Q ≤ k
      · simp (disch := omega) only [gd_t, so_some, so_bind, so_gd, so_none, Option.bind_some, iI_add, iI_sub, iI_mul, iI_neg, iI_clamp, iI_nat, vin_i, iI_le, iI_lt, iI_eq, mn_i, mx_i, if_true, if_false, if_pos, if_neg, li_0, li_1, li_2, li_3, li_4, li_5, li_6, li_7, li_8, li_9, li_10, li_11, li_12, li_14, li_15, li_16, li_20, li_21, li_24, li_28, li_30, li_31, li_40, li_41, li_42, li_43, li_44, li_45, li_47, li_48, li_49, li_57, li_59, li_60, li_61, li_62, li_63, li_70, li_71, li_76, li_80, li_96, li_97, li_98, li_99, li_100, li_101, li_102, li_103, li_104, li_105, li_106, li_107, li_108, li_109, li_110, li_111, li_112, li_113, li_114, li_115, li_116, li_117, li_118, li_119, li_120, li_128, li_142, li_255, li_320, li_781, li_852, li_999, li_1000, li_2000, li_3000, li_9999, li_12345, li_65536, li_1000000, li_252645135, li_858993459, li_1103515245, li_1431655765]
        exact Or.inr ⟨_, rfl, rfl, ht, (by first | rfl | trivial)⟩
      · simp (disch := omega) only [gd_t, so_some, so_bind, so_gd, so_none, Option.bind_some, iI_add, iI_sub, iI_mul, iI_neg, iI_clamp, iI_nat, vin_i, iI_le, iI_lt, iI_eq, mn_i, mx_i, if_true, if_false, if_pos, if_neg, li_0, li_1, li_2, li_3, li_4, li_5, li_6, li_7, li_8, li_9, li_10, li_11, li_12, li_14, li_15, li_16, li_20, li_21, li_24, li_28, li_30, li_31, li_40, li_41, li_42, li_43, li_44, li_45, li_47, li_48, li_49, li_57, li_59, li_60, li_61, li_62, li_63, li_70, li_71, li_76, li_80, li_96, li_97, li_98, li_99, li_100, li_101, li_102, li_103, li_104, li_105, li_106, li_107, li_108, li_109, li_110, li_111, li_112, li_113, li_114, li_115, li_116, li_117, li_118, li_119, li_120, li_128, li_142, li_255, li_320, li_781, li_852, li_999, li_1000, li_2000, li_3000, li_9999, li_12345, li_65536, li_1000000, li_252645135, li_858993459, li_1103515245, li_1431655765]
        exact Or.inr ⟨_, rfl, rfl, ht, (by first | rfl | trivial)⟩
    · have ne : ¬ o.1 = v := by
        rw [o1]
        intro z
        rw [z, j2] at j1
        exact absurd j1 (by decide)
      rw [if_neg ne, p2, p1, o1, show k - 1 + 1 = k + 1 - 1 by omega]
      exact s_rests_O G C M N0 hN a70 hQ tc y1 y2 y3 told m (k + 1) f v' A' _ _ _ _ _ _ _ _ _ _ _ _ _ _ _ _ _ _ _ _ _ _ _ _ _ _ _ _ _ _ _ _ _ _ _ _ (by omega) (by omega) (by omega) w1 w2 w3 S' T'
theorem s_rests {n : Int} {σ : CS} {τ : MS} (h : R n σ τ) (hn : n < 1000) (p1 p2 : Int32) : Ok n (x_rests σ p1 p2) (y_rests τ p1 p2) := by
  obtain ⟨n0, g, c, m, G⟩ := h
  obtain ⟨P, rfl, b0, b1⟩ := iI_of p1
  obtain ⟨Q, rfl, b2, b3⟩ := iI_of p2
  obtain ⟨c1, c2, c3, c4, c5, c6, c7, c8, c9⟩ := c
  obtain ⟨m1, m2, m3, m4, m5, m6, m7, m8, m9⟩ := m
  have e := G.1.1
  have hS := G.2.2.1
  have a7 := hS.2.2
  unfold Ok x_rests y_rests fX11_rests fX12_rests
  by_cases q : 1 ≤ P ∧ P ≤ 30
  · have z1 := win_t (a := P) (b := 1) (c := 30) (by omega) (by omega) q
    have z2 := in_t (a := P) (b := 1) (c := 30) (by omega) (by omega) q
    by_cases q2 : 0 ≤ Q ∧ Q ≤ 20
    · have z3 := win_t (a := Q) (b := 0) (c := 20) (by omega) (by omega) q2
      have z4 := in_t (a := Q) (b := 0) (c := 20) (by omega) (by omega) q2
      obtain ⟨w, hw, hw2⟩ := m_lay0 (b := (τ.2.1 21)) m3
      rw [li_0] at hw
      simp only [li_0, li_1, li_30, li_20, z1, z2, z3, z4, Option.bind_some, hw]
      simp (disch := omega) only [gd_t, so_some, so_bind, so_gd, so_none, Option.bind_some, iI_add, iI_sub, iI_mul, iI_neg, iI_clamp, iI_nat, vin_i, iI_le, iI_lt, iI_eq, mn_i, mx_i, if_true, if_false, if_pos, if_neg, li_0, li_1, li_2, li_3, li_4, li_5, li_6, li_7, li_8, li_9, li_10, li_11, li_12, li_14, li_15, li_16, li_20, li_21, li_24, li_28, li_30, li_31, li_40, li_41, li_42, li_43, li_44, li_45, li_47, li_48, li_49, li_57, li_59, li_60, li_61, li_62, li_63, li_70, li_71, li_76, li_80, li_96, li_97, li_98, li_99, li_100, li_101, li_102, li_103, li_104, li_105, li_106, li_107, li_108, li_109, li_110, li_111, li_112, li_113, li_114, li_115, li_116, li_117, li_118, li_119, li_120, li_128, li_142, li_255, li_320, li_781, li_852, li_999, li_1000, li_2000, li_3000, li_9999, li_12345, li_65536, li_1000000, li_252645135, li_858993459, li_1103515245, li_1431655765]
      refine so_mono (c_beginAt c3 _ _ _ _ _ _ _ _ _) ?_
      rintro o ⟨d1, d2, d3, d4, d5, d6⟩
      have e5 : o.2.2.2.2.1 = iI (g.2.2.1 70) := d5.1
      have d5 : StC g.2.2.1 o.2.2.2.2.1 o.2.2.2.2.2.1 o.2.2.2.2.2.2.1 o.2.2.2.2.2.2.2.1 := d5
      rw [e5] at d5
      rw [e5]
      have K := s_rests_O G.1 c1 m1 q.1 q.2 (a7 := g.2.2.1 70) (by omega) q2.2 (σ.1 25) o.2.1 o.2.2.1 o.2.2.2.1 (σ.2.1 25) Q.toNat 1 FU (iI 0) g.2.2.1 o.1 o.2.2.2.2.2.1 o.2.2.2.2.2.2.1 o.2.2.2.2.2.2.2.1 o.2.2.2.2.2.2.2.2 (σ.1 28) (σ.1 30) (σ.1 32) (σ.1 29) (σ.1 31) (σ.2.1 35) (σ.2.1 34) (σ.2.1 33) (σ.2.1 32) (σ.2.1 20) (σ.2.1 19) τ.2.2 (τ.1 11) (τ.1 20) (τ.1 6) (τ.1 25) (τ.1 10) (τ.1 2) (τ.1 4) (τ.1 1) (τ.1 5) (τ.1 0) (τ.1 3) (τ.1 18) (τ.1 13) (τ.1 17) (τ.1 16) (τ.1 12) w (τ.2.1 13) (τ.2.1 19) (by omega) (by omega) (show _ < 4000 by omega) hS.1 rfl (fun j _ hj => by rw [show bt (iI 0) j = false from bt_0 j] at hj; exact absurd hj (by decide)) d5 hw2
      rw [show (1 : Int) - 1 = 0 from rfl] at K
      refine so_mono K ?_
      rintro r ⟨p, hp, hh⟩
      unfold fX12_rests_J151 fX12_rests_J167
      rcases hh with ⟨x, rfl, h1, h2, h3⟩ | ⟨x, rfl, h1, h2, h3⟩
      · simp only [hp, so_bind, so_some, Sum.elim_inl, Option.bind_some]
        rw [h1]
        refine so_mono (c_tell2 _ _ _ _) ?_
        intro t hr
        rw [h3]
        simp (disch := omega) only [gd_t, so_some, so_bind, so_gd, so_none, Option.bind_some, iI_add, iI_sub, iI_mul, iI_neg, iI_clamp, iI_nat, vin_i, iI_le, iI_lt, iI_eq, mn_i, mx_i, if_true, if_false, if_pos, if_neg, li_0, li_1, li_2, li_3, li_4, li_5, li_6, li_7, li_8, li_9, li_10, li_11, li_12, li_14, li_15, li_16, li_20, li_21, li_24, li_28, li_30, li_31, li_40, li_41, li_42, li_43, li_44, li_45, li_47, li_48, li_49, li_57, li_59, li_60, li_61, li_62, li_63, li_70, li_71, li_76, li_80, li_96, li_97, li_98, li_99, li_100, li_101, li_102, li_103, li_104, li_105, li_106, li_107, li_108, li_109, li_110, li_111, li_112, li_113, li_114, li_115, li_116, li_117, li_118, li_119, li_120, li_128, li_142, li_255, li_320, li_781, li_852, li_999, li_1000, li_2000, li_3000, li_9999, li_12345, li_65536, li_1000000, li_252645135, li_858993459, li_1103515245, li_1431655765]
        refine so_mono (m_tell _ _) ?_
        intro u hu
        refine so_mono (m_more hu (by simp) _) ?_
        intro s hs
        exact ⟨h2.symm, R.tol ⟨n0.1, hn⟩ G hr (by simp) ⟨c1, c2, c3, c4, c5, c6, hr, c8, c9⟩ ⟨m1, m2, m3, m4, m5, m6, hs, m8, m9⟩⟩
      · simp only [hp, so_bind, so_some, Sum.elim_inr, Option.bind_some]
        rw [h3]
        simp (disch := omega) only [gd_t, so_some, so_bind, so_gd, so_none, Option.bind_some, iI_add, iI_sub, iI_mul, iI_neg, iI_clamp, iI_nat, vin_i, iI_le, iI_lt, iI_eq, mn_i, mx_i, if_true, if_false, if_pos, if_neg, li_0, li_1, li_2, li_3, li_4, li_5, li_6, li_7, li_8, li_9, li_10, li_11, li_12, li_14, li_15, li_16, li_20, li_21, li_24, li_28, li_30, li_31, li_40, li_41, li_42, li_43, li_44, li_45, li_47, li_48, li_49, li_57, li_59, li_60, li_61, li_62, li_63, li_70, li_71, li_76, li_80, li_96, li_97, li_98, li_99, li_100, li_101, li_102, li_103, li_104, li_105, li_106, li_107, li_108, li_109, li_110, li_111, li_112, li_113, li_114, li_115, li_116, li_117, li_118, li_119, li_120, li_128, li_142, li_255, li_320, li_781, li_852, li_999, li_1000, li_2000, li_3000, li_9999, li_12345, li_65536, li_1000000, li_252645135, li_858993459, li_1103515245, li_1431655765]
        refine so_mono (m_tell _ _) ?_
        intro u hu
        refine so_mono (m_more hu (by simp) _) ?_
        intro s hs
        exact ⟨h1, R.tol ⟨n0.1, hn⟩ G h2 (by simp) ⟨c1, c2, c3, c4, c5, c6, h2, c8, c9⟩ ⟨m1, m2, m3, m4, m5, m6, hs, m8, m9⟩⟩
    · have z3 := win_f (a := Q) (b := 0) (c := 20) b2 b3 (by omega) (by omega) (by omega) (by omega) q2
      have z4 := in_f (a := Q) (b := 0) (c := 20) b2 b3 (by omega) (by omega) (by omega) (by omega) q2
      simp only [li_0, li_1, li_30, li_20, z1, z2, z3, z4, Option.bind_some]
      simp (disch := omega) only [gd_t, so_some, so_bind, so_gd, so_none, Option.bind_some, iI_add, iI_sub, iI_mul, iI_neg, iI_clamp, iI_nat, vin_i, iI_le, iI_lt, iI_eq, mn_i, mx_i, if_true, if_false, if_pos, if_neg, li_0, li_1, li_2, li_3, li_4, li_5, li_6, li_7, li_8, li_9, li_10, li_11, li_12, li_14, li_15, li_16, li_20, li_21, li_24, li_28, li_30, li_31, li_40, li_41, li_42, li_43, li_44, li_45, li_47, li_48, li_49, li_57, li_59, li_60, li_61, li_62, li_63, li_70, li_71, li_76, li_80, li_96, li_97, li_98, li_99, li_100, li_101, li_102, li_103, li_104, li_105, li_106, li_107, li_108, li_109, li_110, li_111, li_112, li_113, li_114, li_115, li_116, li_117, li_118, li_119, li_120, li_128, li_142, li_255, li_320, li_781, li_852, li_999, li_1000, li_2000, li_3000, li_9999, li_12345, li_65536, li_1000000, li_252645135, li_858993459, li_1103515245, li_1431655765]
      exact ⟨(by first | rfl | trivial), R.same ⟨n0.1, hn⟩ G ⟨c1, c2, c3, c4, c5, c6, c7, c8, c9⟩ ⟨m1, m2, m3, m4, m5, m6, m7, m8, m9⟩⟩
  · have z1 := win_f (a := P) (b := 1) (c := 30) b0 b1 (by omega) (by omega) (by omega) (by omega) q
    have z2 := in_f (a := P) (b := 1) (c := 30) b0 b1 (by omega) (by omega) (by omega) (by omega) q
    simp only [li_1, li_30, z1, z2, Option.bind_some]
    simp (disch := omega) only [gd_t, so_some, so_bind, so_gd, so_none, Option.bind_some, iI_add, iI_sub, iI_mul, iI_neg, iI_clamp, iI_nat, vin_i, iI_le, iI_lt, iI_eq, mn_i, mx_i, if_true, if_false, if_pos, if_neg, li_0, li_1, li_2, li_3, li_4, li_5, li_6, li_7, li_8, li_9, li_10, li_11, li_12, li_14, li_15, li_16, li_20, li_21, li_24, li_28, li_30, li_31, li_40, li_41, li_42, li_43, li_44, li_45, li_47, li_48, li_49, li_57, li_59, li_60, li_61, li_62, li_63, li_70, li_71, li_76, li_80, li_96, li_97, li_98, li_99, li_100, li_101, li_102, li_103, li_104, li_105, li_106, li_107, li_108, li_109, li_110, li_111, li_112, li_113, li_114, li_115, li_116, li_117, li_118, li_119, li_120, li_128, li_142, li_255, li_320, li_781, li_852, li_999, li_1000, li_2000, li_3000, li_9999, li_12345, li_65536, li_1000000, li_252645135, li_858993459, li_1103515245, li_1431655765]
    exact ⟨(by first | rfl | trivial), R.same ⟨n0.1, hn⟩ G ⟨c1, c2, c3, c4, c5, c6, c7, c8, c9⟩ ⟨m1, m2, m3, m4, m5, m6, m7, m8, m9⟩⟩
