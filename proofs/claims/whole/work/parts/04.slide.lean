/-! what a slide does -/
abbrev EN : Type := Int × (Int → Int) × (Int → Int) × (Int → Int) × (Int → Int → Int → Int → Int → Int → Int → Int → Int)
/-- houses, holds, what is below, inches by days, the rule: all in their bounds -/
def EnG (E : EN) : Prop :=
  (0 ≤ E.1 ∧ E.1 ≤ 7) ∧ (∀ i, 0 ≤ i → i < E.1 → 1 ≤ E.2.1 i ∧ E.2.1 i ≤ 99) ∧ (∀ s, 0 ≤ s → s < 2 * E.1 → 0 ≤ E.2.2.1 s ∧ E.2.2.1 s ≤ 6) ∧ (∀ d, -9 ≤ E.2.2.2.1 d ∧ E.2.2.2.1 d ≤ 9) ∧ (∀ a b c d e f g h, 0 ≤ E.2.2.2.2 a b c d e f g h ∧ E.2.2.2.2 a b c d e f g h ≤ 99)
def RuC (ru : Int → Int → Int → Int → Int → Int → Int → Int → Int) (len : Int32) (code : Nat → Int32) : Prop :=
  ∀ (things stack : Nat → Int32) (T : Int → Int), Arr 8 things T → So (fX4_daysOwed len things stack code) (fun o => o.1 = iI (ru (T 0) (T 1) (T 2) (T 3) (T 4) (T 5) (T 6) (T 7)))
def RuM (ru : Int → Int → Int → Int → Int → Int → Int → Int → Int) (size : Int32) (rule : Nat → Int32) : Prop :=
  ∀ (many : Int32) (weather hold : Nat → Int32) (rr : Nat) (len top at' wrong asked : Int32) (d p n rf be lo wv ho : Int), fX12_weatherOf many weather (iI n) = some (iI wv) → 0 ≤ rf → rf < 7 → hold rf.toNat = iI ho → -9 ≤ wv → wv ≤ 9 →
    So (fX12_ruled many rr len top at' wrong size asked (iI d) (iI p) (iI n) (iI rf) (iI be) (iI lo) rule hold weather) (fun o => mx 0 (mn 99 o.1) = iI (ru d p (max 0 (-wv)) ho n lo rf be))
def EnC (E : EN) (ho cy le : Int32) (hold below inches code : Nat → Int32) : Prop :=
  ho = iI E.1 ∧ Arr E.1 hold E.2.1 ∧ Arr (2 * E.1) below E.2.2.1 ∧ (∀ d, 0 ≤ d → d < 2147483648 → fX10_inchesIn cy inches (iI d) = some (iI (E.2.2.2.1 d))) ∧ RuC E.2.2.2.2 le code
def EnM (E : EN) (ho many size : Int32) (hold below weather rule : Nat → Int32) : Prop :=
  ho = iI E.1 ∧ Arr E.1 hold E.2.1 ∧ Arr (2 * E.1) below E.2.2.1 ∧ (∀ d, 0 ≤ d → d < 2147483648 → fX12_weatherOf many weather (iI d) = some (iI (E.2.2.2.1 d))) ∧ RuM E.2.2.2.2 size rule
/-- snow on roofs and paths, debts, the day: in their bounds -/
def WA (A : Int → Int) : Prop := (∀ i, 0 ≤ i → i < 21 → 0 ≤ A i ∧ A i ≤ 999) ∧ (∀ i, 21 ≤ i → i < 70 → 0 ≤ A i ∧ A i ≤ 9999) ∧ 0 ≤ A 70
/-- the days that it owes -/
def slD (E : EN) (A : Int → Int) (s bl x : Int) : Int :=
  if E.2.2.1 s < E.1 ∧ A s ≠ 0 ∧ bl ≠ E.2.2.1 s then E.2.2.2.2 (A s) (A (14 + E.2.2.1 s)) (max 0 (-(E.2.2.2.1 (A 70)))) (E.2.1 (s / 2)) (A 70) x (s / 2) (E.2.2.1 s) else 0
def slA (E : EN) (A : Int → Int) (s bl x : Int) : Int → Int :=
  if E.2.2.1 s < E.1 then
    (if A s ≠ 0 ∧ bl ≠ E.2.2.1 s then upI (upI (upI A s 0) (14 + E.2.2.1 s) (min 999 (A (14 + E.2.2.1 s) + A s))) (21 + (bl * 7 + E.2.2.1 s)) (min 9999 (A (21 + (bl * 7 + E.2.2.1 s)) + slD E A s bl x))
     else upI (upI A s 0) (14 + E.2.2.1 s) (min 999 (A (14 + E.2.2.1 s) + A s)))
  else upI A s 0
def slB (E : EN) (A ob : Int → Int) (s bl x : Int) : Int → Int :=
  if E.2.2.1 s < E.1 ∧ A s ≠ 0 ∧ bl ≠ E.2.2.1 s then upI ob bl (ob bl + slD E A s bl x) else ob
theorem slD_b {E : EN} (G : EnG E) (A : Int → Int) (s bl x : Int) : 0 ≤ slD E A s bl x ∧ slD E A s bl x ≤ 99 := by
  unfold slD
  split
  · exact G.2.2.2.2 _ _ _ _ _ _ _ _
  · omega
theorem c_slide {E : EN} (G : EnG E) {ho cy le : Int32} {hold below inches code : Nat → Int32} (C : EnC E ho cy le hold below inches code) {A ob : Int → Int} (hA : WA A) (hn : A 70 < 2147483648)
    {snow path debt owedBy things stack : Nat → Int32} (h1 : Arr 14 snow A) (h2 : Arr 7 path (fun i => A (14 + i))) (h3 : Arr 49 debt (fun i => A (21 + i))) (h4 : Arr 7 owedBy ob)
    {ow s bl x : Int} (hs : 0 ≤ s) (hs2 : s < 2 * E.1) (hb : 0 ≤ bl) (hb2 : bl < E.1) (hx : x = 0 ∨ x = 1) :
    So (fX9_slideOff (iI ow) ho below (iI (A 70)) snow path le things cy inches hold stack code debt owedBy (iI s) (iI bl) (iI x))
      (fun o => o.1 = iI (ow + slD E A s bl x) ∧ Arr 14 o.2.1 (slA E A s bl x) ∧ Arr 7 o.2.2.1 (fun i => slA E A s bl x (14 + i)) ∧ Arr 49 o.2.2.2.2.2.1 (fun i => slA E A s bl x (21 + i)) ∧ Arr 7 o.2.2.2.2.2.2 (slB E A ob s bl x)) := by
  obtain ⟨rfl, c2, c3, c4, c5⟩ := C
  obtain ⟨⟨g0, g1⟩, g2, g3, g4, g5⟩ := G
  have b1 := g3 s hs hs2
  have a1 := hA.1 s hs (by omega)
  have a2 := hA.1 (14 + E.2.2.1 s) (by omega) (by omega)
  have a3 := hA.2.1 (21 + (bl * 7 + E.2.2.1 s)) (by omega) (by omega)
  have a4 := hA.2.2
  have w1 := g4 (A 70)
  have o1 := g2 (s / 2) (by omega) (by omega)
  have u1 : Arr 14 (upd snow s.toNat (iI 0)) (upI A s 0) := h1.up 0 hs
  have e1 : min 999 (A (14 + E.2.2.1 s) + A s) = max 0 (min 999 (A (14 + E.2.2.1 s) + A s)) := by omega
  have u2 : Arr 7 (upd path (E.2.2.1 s).toNat (iI (max 0 (min 999 (A (14 + E.2.2.1 s) + A s))))) (fun i => upI (upI A s 0) (14 + E.2.2.1 s) (min 999 (A (14 + E.2.2.1 s) + A s)) (14 + i)) := by
    rw [← e1]
    refine (h2.up _ b1.1).congr (fun y y0 y1 => ?_)
    by_cases hy : y = E.2.2.1 s
    · subst hy; rw [upI_s, upI_s]
    · rw [upI_o _ hy, upI_o _ (by omega), upI_o _ (by omega)]
  unfold fX9_slideOff
  simp (disch := omega) only [gd_t, so_some, so_bind, so_gd, so_none, Option.bind_some, iI_add, iI_sub, iI_mul, iI_neg, iI_clamp, iI_nat, vin_i, iI_le, iI_lt, iI_eq, mn_i, mx_i, if_true, if_false, if_pos, if_neg, li_0, li_1, li_2, li_3, li_4, li_5, li_6, li_7, li_8, li_9, li_10, li_11, li_12, li_14, li_15, li_16, li_20, li_21, li_24, li_28, li_30, li_31, li_40, li_41, li_42, li_43, li_44, li_45, li_47, li_48, li_49, li_57, li_59, li_60, li_61, li_62, li_63, li_70, li_71, li_76, li_80, li_96, li_97, li_98, li_99, li_100, li_101, li_102, li_103, li_104, li_105, li_106, li_107, li_108, li_109, li_110, li_111, li_112, li_113, li_114, li_115, li_116, li_117, li_118, li_119, li_120, li_128, li_142, li_255, li_320, li_781, li_852, li_999, li_1000, li_2000, li_3000, li_9999, li_12345, li_65536, li_1000000, li_252645135, li_858993459, li_1103515245, li_1431655765, c3.at, h1.at, h2.at, fX7_has]
  by_cases q1 : E.2.2.1 s < E.1
  · simp (disch := omega) only [gd_t, so_some, so_bind, so_gd, so_none, Option.bind_some, iI_add, iI_sub, iI_mul, iI_neg, iI_clamp, iI_nat, vin_i, iI_le, iI_lt, iI_eq, mn_i, mx_i, if_true, if_false, if_pos, if_neg, li_0, li_1, li_2, li_3, li_4, li_5, li_6, li_7, li_8, li_9, li_10, li_11, li_12, li_14, li_15, li_16, li_20, li_21, li_24, li_28, li_30, li_31, li_40, li_41, li_42, li_43, li_44, li_45, li_47, li_48, li_49, li_57, li_59, li_60, li_61, li_62, li_63, li_70, li_71, li_76, li_80, li_96, li_97, li_98, li_99, li_100, li_101, li_102, li_103, li_104, li_105, li_106, li_107, li_108, li_109, li_110, li_111, li_112, li_113, li_114, li_115, li_116, li_117, li_118, li_119, li_120, li_128, li_142, li_255, li_320, li_781, li_852, li_999, li_1000, li_2000, li_3000, li_9999, li_12345, li_65536, li_1000000, li_252645135, li_858993459, li_1103515245, li_1431655765, fX5_lying, h1.at, h2.at]
    by_cases q2 : A s = 0
    · rw [if_pos (by omega), so_some]
      have d0 : slD E A s bl x = 0 := by unfold slD; rw [if_neg (by omega)]
      have A0 : slA E A s bl x = upI (upI A s 0) (14 + E.2.2.1 s) (min 999 (A (14 + E.2.2.1 s) + A s)) := by
        unfold slA; rw [if_pos q1, if_neg (by omega)]
      have B0 : slB E A ob s bl x = ob := by unfold slB; rw [if_neg (by omega)]
      rw [d0, A0, B0, Int.add_zero]
      refine ⟨rfl, u1.congr (fun y y0 y1 => (upI_o _ (by omega)).symm), u2, h3.congr (fun y y0 y1 => ?_), h4⟩
      rw [upI_o _ (by omega), upI_o _ (by omega)]
    · rw [if_neg (by omega)]
      by_cases q3 : bl = E.2.2.1 s
      · rw [if_pos q3, so_some]
        have d0 : slD E A s bl x = 0 := by unfold slD; rw [if_neg (by omega)]
        have A0 : slA E A s bl x = upI (upI A s 0) (14 + E.2.2.1 s) (min 999 (A (14 + E.2.2.1 s) + A s)) := by
          unfold slA; rw [if_pos q1, if_neg (by omega)]
        have B0 : slB E A ob s bl x = ob := by unfold slB; rw [if_neg (by omega)]
        rw [d0, A0, B0, Int.add_zero]
        refine ⟨rfl, u1.congr (fun y y0 y1 => (upI_o _ (by omega)).symm), u2, h3.congr (fun y y0 y1 => ?_), h4⟩
        rw [upI_o _ (by omega), upI_o _ (by omega)]
      · rw [if_neg q3]
        have d0 : slD E A s bl x = E.2.2.2.2 (A s) (A (14 + E.2.2.1 s)) (max 0 (-(E.2.2.2.1 (A 70)))) (E.2.1 (s / 2)) (A 70) x (s / 2) (E.2.2.1 s) := by unfold slD; rw [if_pos (by omega)]
        have A0 : slA E A s bl x = upI (upI (upI A s 0) (14 + E.2.2.1 s) (min 999 (A (14 + E.2.2.1 s) + A s))) (21 + (bl * 7 + E.2.2.1 s)) (min 9999 (A (21 + (bl * 7 + E.2.2.1 s)) + slD E A s bl x)) := by
          unfold slA; rw [if_pos q1, if_pos (by omega)]
        have B0 : slB E A ob s bl x = upI ob bl (ob bl + slD E A s bl x) := by unfold slB; rw [if_pos (by omega)]
        have key : ∀ (t : Nat → Int32) (T : Int → Int), Arr 8 t T → T 0 = A s → T 1 = A (14 + E.2.2.1 s) → T 2 = max 0 (-(E.2.2.2.1 (A 70))) → T 3 = E.2.1 (s / 2) → T 4 = A 70 →
            So (fX9_slideOff_J189 le code (iI s) (iI bl) (iI (E.2.2.1 s)) (iI x) (iI 5) (iI ow) (upd snow s.toNat (iI 0)) (upd path (E.2.2.1 s).toNat (iI (max 0 (min 999 (A (14 + E.2.2.1 s) + A s))))) t stack debt owedBy)
              (fun o => o.1 = iI (ow + slD E A s bl x) ∧ Arr 14 o.2.1 (slA E A s bl x) ∧ Arr 7 o.2.2.1 (fun i => slA E A s bl x (14 + i)) ∧ Arr 49 o.2.2.2.2.2.1 (fun i => slA E A s bl x (21 + i)) ∧ Arr 7 o.2.2.2.2.2.2 (slB E A ob s bl x)) := by
          intro t T ht t0 t1 t2 t3 t4
          unfold fX9_slideOff_J189
          simp (disch := omega) only [gd_t, so_some, so_bind, so_gd, so_none, Option.bind_some, iI_add, iI_sub, iI_mul, iI_neg, iI_clamp, iI_nat, vin_i, iI_le, iI_lt, iI_eq, mn_i, mx_i, if_true, if_false, if_pos, if_neg, li_0, li_1, li_2, li_3, li_4, li_5, li_6, li_7, li_8, li_9, li_10, li_11, li_12, li_14, li_15, li_16, li_20, li_21, li_24, li_28, li_30, li_31, li_40, li_41, li_42, li_43, li_44, li_45, li_47, li_48, li_49, li_57, li_59, li_60, li_61, li_62, li_63, li_70, li_71, li_76, li_80, li_96, li_97, li_98, li_99, li_100, li_101, li_102, li_103, li_104, li_105, li_106, li_107, li_108, li_109, li_110, li_111, li_112, li_113, li_114, li_115, li_116, li_117, li_118, li_119, li_120, li_128, li_142, li_255, li_320, li_781, li_852, li_999, li_1000, li_2000, li_3000, li_9999, li_12345, li_65536, li_1000000, li_252645135, li_858993459, li_1103515245, li_1431655765, iI_div2]
          refine so_mono (c5 _ _ _ (((ht.up x (k := 5) (by omega)).up (s / 2) (k := 6) (by omega)).up (E.2.2.1 s) (k := 7) (by omega))) ?_
          intro o ho
          have e2 : o.1 = iI (slD E A s bl x) := by
            rw [ho, d0]
            simp (disch := decide) only [upI_s, upI_o, ne_eq, t0, t1, t2, t3, t4]
          have db : 0 ≤ slD E A s bl x ∧ slD E A s bl x ≤ 99 := by rw [d0]; exact g5 _ _ _ _ _ _ _ _
          rw [e2]
          unfold fX5_owe
          simp (disch := omega) only [gd_t, so_some, so_bind, so_gd, so_none, Option.bind_some, iI_add, iI_sub, iI_mul, iI_neg, iI_clamp, iI_nat, vin_i, iI_le, iI_lt, iI_eq, mn_i, mx_i, if_true, if_false, if_pos, if_neg, li_0, li_1, li_2, li_3, li_4, li_5, li_6, li_7, li_8, li_9, li_10, li_11, li_12, li_14, li_15, li_16, li_20, li_21, li_24, li_28, li_30, li_31, li_40, li_41, li_42, li_43, li_44, li_45, li_47, li_48, li_49, li_57, li_59, li_60, li_61, li_62, li_63, li_70, li_71, li_76, li_80, li_96, li_97, li_98, li_99, li_100, li_101, li_102, li_103, li_104, li_105, li_106, li_107, li_108, li_109, li_110, li_111, li_112, li_113, li_114, li_115, li_116, li_117, li_118, li_119, li_120, li_128, li_142, li_255, li_320, li_781, li_852, li_999, li_1000, li_2000, li_3000, li_9999, li_12345, li_65536, li_1000000, li_252645135, li_858993459, li_1103515245, li_1431655765, h3.at, h4.at]
          rw [A0, B0]
          refine ⟨trivial, u1.congr (fun y y0 y1 => ?_), u2.congr (fun y y0 y1 => ?_), ?_, h4.up _ hb⟩
          · rw [upI_o (k := 21 + (bl * 7 + E.2.2.1 s)) _ (by omega), upI_o (k := 14 + E.2.2.1 s) _ (by omega)]
          · rw [upI_o (k := 21 + (bl * 7 + E.2.2.1 s)) _ (by omega)]
          · refine (h3.up _ (by omega)).congr (fun y y0 y1 => ?_)
            by_cases hy : y = bl * 7 + E.2.2.1 s
            · subst hy; rw [upI_s, upI_s]
            · rw [upI_o _ hy, upI_o _ (by omega), upI_o _ (by omega), upI_o _ (by omega)]
        have harr : Arr 8 things (fun y => (things y.toNat).toInt) := fun y _ _ => (Int32.ofInt_toInt _).symm
        have ht := ((((harr.up (A s) (k := 0) (by omega)).up (A (14 + E.2.2.1 s)) (k := 1) (by omega)).up (max 0 (-(E.2.2.2.1 (A 70)))) (k := 2) (by omega)).up (E.2.1 (s / 2)) (k := 3) (by omega)).up (A 70) (k := 4) (by omega)
        have hk := key _ _ ht (by simp (disch := decide) only [upI_s, upI_o, ne_eq]) (by simp (disch := decide) only [upI_s, upI_o, ne_eq]) (by simp (disch := decide) only [upI_s, upI_o, ne_eq]) (by simp (disch := decide) only [upI_s, upI_o, ne_eq]) (by simp (disch := decide) only [upI_s, upI_o, ne_eq])
        simp (disch := omega) only [gd_t, so_some, so_bind, so_gd, so_none, Option.bind_some, iI_add, iI_sub, iI_mul, iI_neg, iI_clamp, iI_nat, vin_i, iI_le, iI_lt, iI_eq, mn_i, mx_i, if_true, if_false, if_pos, if_neg, li_0, li_1, li_2, li_3, li_4, li_5, li_6, li_7, li_8, li_9, li_10, li_11, li_12, li_14, li_15, li_16, li_20, li_21, li_24, li_28, li_30, li_31, li_40, li_41, li_42, li_43, li_44, li_45, li_47, li_48, li_49, li_57, li_59, li_60, li_61, li_62, li_63, li_70, li_71, li_76, li_80, li_96, li_97, li_98, li_99, li_100, li_101, li_102, li_103, li_104, li_105, li_106, li_107, li_108, li_109, li_110, li_111, li_112, li_113, li_114, li_115, li_116, li_117, li_118, li_119, li_120, li_128, li_142, li_255, li_320, li_781, li_852, li_999, li_1000, li_2000, li_3000, li_9999, li_12345, li_65536, li_1000000, li_252645135, li_858993459, li_1103515245, li_1431655765, c4, c2.at, iI_div2]
        rcases hx with rfl | rfl
        · simp (disch := omega) only [gd_t, so_some, so_bind, so_gd, so_none, Option.bind_some, iI_add, iI_sub, iI_mul, iI_neg, iI_clamp, iI_nat, vin_i, iI_le, iI_lt, iI_eq, mn_i, mx_i, if_true, if_false, if_pos, if_neg, li_0, li_1, li_2, li_3, li_4, li_5, li_6, li_7, li_8, li_9, li_10, li_11, li_12, li_14, li_15, li_16, li_20, li_21, li_24, li_28, li_30, li_31, li_40, li_41, li_42, li_43, li_44, li_45, li_47, li_48, li_49, li_57, li_59, li_60, li_61, li_62, li_63, li_70, li_71, li_76, li_80, li_96, li_97, li_98, li_99, li_100, li_101, li_102, li_103, li_104, li_105, li_106, li_107, li_108, li_109, li_110, li_111, li_112, li_113, li_114, li_115, li_116, li_117, li_118, li_119, li_120, li_128, li_142, li_255, li_320, li_781, li_852, li_999, li_1000, li_2000, li_3000, li_9999, li_12345, li_65536, li_1000000, li_252645135, li_858993459, li_1103515245, li_1431655765]
          exact hk
        · simp (disch := omega) only [gd_t, so_some, so_bind, so_gd, so_none, Option.bind_some, iI_add, iI_sub, iI_mul, iI_neg, iI_clamp, iI_nat, vin_i, iI_le, iI_lt, iI_eq, mn_i, mx_i, if_true, if_false, if_pos, if_neg, li_0, li_1, li_2, li_3, li_4, li_5, li_6, li_7, li_8, li_9, li_10, li_11, li_12, li_14, li_15, li_16, li_20, li_21, li_24, li_28, li_30, li_31, li_40, li_41, li_42, li_43, li_44, li_45, li_47, li_48, li_49, li_57, li_59, li_60, li_61, li_62, li_63, li_70, li_71, li_76, li_80, li_96, li_97, li_98, li_99, li_100, li_101, li_102, li_103, li_104, li_105, li_106, li_107, li_108, li_109, li_110, li_111, li_112, li_113, li_114, li_115, li_116, li_117, li_118, li_119, li_120, li_128, li_142, li_255, li_320, li_781, li_852, li_999, li_1000, li_2000, li_3000, li_9999, li_12345, li_65536, li_1000000, li_252645135, li_858993459, li_1103515245, li_1431655765]
          exact hk
  · simp (disch := omega) only [gd_t, so_some, so_bind, so_gd, so_none, Option.bind_some, iI_add, iI_sub, iI_mul, iI_neg, iI_clamp, iI_nat, vin_i, iI_le, iI_lt, iI_eq, mn_i, mx_i, if_true, if_false, if_pos, if_neg, li_0, li_1, li_2, li_3, li_4, li_5, li_6, li_7, li_8, li_9, li_10, li_11, li_12, li_14, li_15, li_16, li_20, li_21, li_24, li_28, li_30, li_31, li_40, li_41, li_42, li_43, li_44, li_45, li_47, li_48, li_49, li_57, li_59, li_60, li_61, li_62, li_63, li_70, li_71, li_76, li_80, li_96, li_97, li_98, li_99, li_100, li_101, li_102, li_103, li_104, li_105, li_106, li_107, li_108, li_109, li_110, li_111, li_112, li_113, li_114, li_115, li_116, li_117, li_118, li_119, li_120, li_128, li_142, li_255, li_320, li_781, li_852, li_999, li_1000, li_2000, li_3000, li_9999, li_12345, li_65536, li_1000000, li_252645135, li_858993459, li_1103515245, li_1431655765]
    have d0 : slD E A s bl x = 0 := by unfold slD; rw [if_neg (by omega)]
    have A0 : slA E A s bl x = upI A s 0 := by
      unfold slA; rw [if_neg q1]
    have B0 : slB E A ob s bl x = ob := by unfold slB; rw [if_neg (by omega)]
    rw [d0, A0, B0, Int.add_zero]
    refine ⟨rfl, u1, h2.congr (fun y y0 y1 => (upI_o _ (by omega)).symm), h3.congr (fun y y0 y1 => (upI_o _ (by omega)).symm), h4⟩
theorem m_slide {E : EN} (G : EnG E) {ho many size : Int32} {hold below weather rule : Nat → Int32} (M : EnM E ho many size hold below weather rule) {A ob : Int → Int} (hA : WA A) (hn : A 70 < 2147483648)
    {a owedBy : Nat → Int32} (h1 : Arr 71 a A) (h4 : Arr 7 owedBy ob) {rr : Nat} {len top at' wrong asked i1 i2 i3 i4 i5 i6 si : Int32} {sm on : Int}
    {s bl x : Int} (hs : 0 ≤ s) (hs2 : s < 2 * E.1) (hb : 0 ≤ bl) (hb2 : bl < E.1) :
    So (fX12_slide 71 ho many rr len top at' wrong size asked i1 i2 i3 i4 i5 i6 (iI sm) (iI on) si below rule hold weather owedBy a (iI s) (iI bl) (iI x))
      (fun o => o.2.2.2.2.2.2.2.2.2.2.2.2.1 = iI (sm + 1) ∧ o.2.2.2.2.2.2.2.2.2.2.2.2.2.1 = iI (on + slD E A s bl x) ∧
        o.2.2.2.2.2.2.2.2.2.2.2.2.2.2.1 = (if E.2.2.1 s < E.1 then (if s / 2 = E.2.2.1 s then si else si ||| (1 <<< (iI (E.2.2.1 s) &&& 31))) else si) ∧
        Arr 7 o.2.2.2.2.2.2.2.2.2.2.2.2.2.2.2.1 (slB E A ob s bl x) ∧ Arr 71 o.2.2.2.2.2.2.2.2.2.2.2.2.2.2.2.2 (slA E A s bl x)) := by
  obtain ⟨rfl, c2, c3, c4, c5⟩ := M
  obtain ⟨⟨g0, g1⟩, g2, g3, g4, g5⟩ := G
  have b1 := g3 s hs hs2
  have a1 := hA.1 s hs (by omega)
  have a2 := hA.1 (14 + E.2.2.1 s) (by omega) (by omega)
  have a3 := hA.2.1 (21 + (bl * 7 + E.2.2.1 s)) (by omega) (by omega)
  have a4 := hA.2.2
  have w1 := g4 (A 70)
  have u1 : Arr 71 (upd a s.toNat (iI 0)) (upI A s 0) := h1.up 0 hs
  have n1 : upI A s 0 (14 + E.2.2.1 s) = A (14 + E.2.2.1 s) := upI_o _ (by omega)
  have n2 : upI A s 0 70 = A 70 := upI_o _ (by omega)
  have key : ∀ sj : Int32, E.2.2.1 s < E.1 → So (fX12_slide_J58 71 many size rule hold weather (iI s) (iI bl) (iI x) (iI (A s)) (iI (E.2.2.1 s)) rr len top at' wrong asked (iI (sm + 1)) (iI on) sj owedBy (upd a s.toNat (iI 0)))
      (fun o => o.2.2.2.2.2.2.2.2.2.2.2.2.1 = iI (sm + 1) ∧ o.2.2.2.2.2.2.2.2.2.2.2.2.2.1 = iI (on + slD E A s bl x) ∧
        o.2.2.2.2.2.2.2.2.2.2.2.2.2.2.1 = sj ∧
        Arr 7 o.2.2.2.2.2.2.2.2.2.2.2.2.2.2.2.1 (slB E A ob s bl x) ∧ Arr 71 o.2.2.2.2.2.2.2.2.2.2.2.2.2.2.2.2 (slA E A s bl x)) := by
    intro sj q1
    unfold fX12_slide_J58
    simp (disch := omega) only [gd_t, so_some, so_bind, so_gd, so_none, Option.bind_some, iI_add, iI_sub, iI_mul, iI_neg, iI_clamp, iI_nat, vin_i, iI_le, iI_lt, iI_eq, mn_i, mx_i, if_true, if_false, if_pos, if_neg, li_0, li_1, li_2, li_3, li_4, li_5, li_6, li_7, li_8, li_9, li_10, li_11, li_12, li_14, li_15, li_16, li_20, li_21, li_24, li_28, li_30, li_31, li_40, li_41, li_42, li_43, li_44, li_45, li_47, li_48, li_49, li_57, li_59, li_60, li_61, li_62, li_63, li_70, li_71, li_76, li_80, li_96, li_97, li_98, li_99, li_100, li_101, li_102, li_103, li_104, li_105, li_106, li_107, li_108, li_109, li_110, li_111, li_112, li_113, li_114, li_115, li_116, li_117, li_118, li_119, li_120, li_128, li_142, li_255, li_320, li_781, li_852, li_999, li_1000, li_2000, li_3000, li_9999, li_12345, li_65536, li_1000000, li_252645135, li_858993459, li_1103515245, li_1431655765, u1.at, n1, n2, iI_div2]
    by_cases q2 : A s = 0
    · have d0 : slD E A s bl x = 0 := by unfold slD; rw [if_neg (by omega)]
      have A0 : slA E A s bl x = upI (upI A s 0) (14 + E.2.2.1 s) (min 999 (A (14 + E.2.2.1 s) + A s)) := by
        unfold slA; rw [if_pos q1, if_neg (by omega)]
      have B0 : slB E A ob s bl x = ob := by unfold slB; rw [if_neg (by omega)]
      rw [if_pos q2, so_some, d0, A0, B0, Int.add_zero]
      exact ⟨rfl, rfl, rfl, h4, u1.up _ (by omega)⟩
    · rw [if_neg q2]
      by_cases q3 : bl = E.2.2.1 s
      · have d0 : slD E A s bl x = 0 := by unfold slD; rw [if_neg (by omega)]
        have A0 : slA E A s bl x = upI (upI A s 0) (14 + E.2.2.1 s) (min 999 (A (14 + E.2.2.1 s) + A s)) := by
          unfold slA; rw [if_pos q1, if_neg (by omega)]
        have B0 : slB E A ob s bl x = ob := by unfold slB; rw [if_neg (by omega)]
        rw [if_pos q3, so_some, d0, A0, B0, Int.add_zero]
        exact ⟨rfl, rfl, rfl, h4, u1.up _ (by omega)⟩
      · have d0 : slD E A s bl x = E.2.2.2.2 (A s) (A (14 + E.2.2.1 s)) (max 0 (-(E.2.2.2.1 (A 70)))) (E.2.1 (s / 2)) (A 70) x (s / 2) (E.2.2.1 s) := by unfold slD; rw [if_pos (by omega)]
        have A0 : slA E A s bl x = upI (upI (upI A s 0) (14 + E.2.2.1 s) (min 999 (A (14 + E.2.2.1 s) + A s))) (21 + (bl * 7 + E.2.2.1 s)) (min 9999 (A (21 + (bl * 7 + E.2.2.1 s)) + slD E A s bl x)) := by
          unfold slA; rw [if_pos q1, if_pos (by omega)]
        have B0 : slB E A ob s bl x = upI ob bl (ob bl + slD E A s bl x) := by unfold slB; rw [if_pos (by omega)]
        have db : 0 ≤ slD E A s bl x ∧ slD E A s bl x ≤ 99 := by rw [d0]; exact g5 _ _ _ _ _ _ _ _
        rw [if_neg q3, so_bind]
        refine so_mono (c5 many weather hold rr len top at' wrong asked (A s) (A (14 + E.2.2.1 s)) (A 70) (s / 2) (E.2.2.1 s) x _ _ (c4 _ a4 hn) (by omega) (by omega) (c2.at (by omega) (by omega)) w1.1 w1.2) ?_
        intro o ho
        rw [← d0] at ho
        simp only [li_0, li_99] at ho
        have e3 : 21 + 7 * bl + E.2.2.1 s = 21 + (bl * 7 + E.2.2.1 s) := by omega
        have u2 := u1.up (min 999 (A (14 + E.2.2.1 s) + A s)) (k := 14 + E.2.2.1 s) (by omega)
        have n3 : upI (upI A s 0) (14 + E.2.2.1 s) (min 999 (A (14 + E.2.2.1 s) + A s)) (21 + (bl * 7 + E.2.2.1 s)) = A (21 + (bl * 7 + E.2.2.1 s)) := by
          rw [upI_o _ (by omega), upI_o _ (by omega)]
        simp (disch := omega) only [gd_t, so_some, so_bind, so_gd, so_none, Option.bind_some, iI_add, iI_sub, iI_mul, iI_neg, iI_clamp, iI_nat, vin_i, iI_le, iI_lt, iI_eq, mn_i, mx_i, if_true, if_false, if_pos, if_neg, li_0, li_1, li_2, li_3, li_4, li_5, li_6, li_7, li_8, li_9, li_10, li_11, li_12, li_14, li_15, li_16, li_20, li_21, li_24, li_28, li_30, li_31, li_40, li_41, li_42, li_43, li_44, li_45, li_47, li_48, li_49, li_57, li_59, li_60, li_61, li_62, li_63, li_70, li_71, li_76, li_80, li_96, li_97, li_98, li_99, li_100, li_101, li_102, li_103, li_104, li_105, li_106, li_107, li_108, li_109, li_110, li_111, li_112, li_113, li_114, li_115, li_116, li_117, li_118, li_119, li_120, li_128, li_142, li_255, li_320, li_781, li_852, li_999, li_1000, li_2000, li_3000, li_9999, li_12345, li_65536, li_1000000, li_252645135, li_858993459, li_1103515245, li_1431655765, h4.at, ho, e3, u2.at, n3]
        rw [A0, B0]
        exact ⟨trivial, trivial, trivial, h4.up _ hb, u2.up _ (by omega)⟩
  unfold fX12_slide
  simp (disch := omega) only [gd_t, so_some, so_bind, so_gd, so_none, Option.bind_some, iI_add, iI_sub, iI_mul, iI_neg, iI_clamp, iI_nat, vin_i, iI_le, iI_lt, iI_eq, mn_i, mx_i, if_true, if_false, if_pos, if_neg, li_0, li_1, li_2, li_3, li_4, li_5, li_6, li_7, li_8, li_9, li_10, li_11, li_12, li_14, li_15, li_16, li_20, li_21, li_24, li_28, li_30, li_31, li_40, li_41, li_42, li_43, li_44, li_45, li_47, li_48, li_49, li_57, li_59, li_60, li_61, li_62, li_63, li_70, li_71, li_76, li_80, li_96, li_97, li_98, li_99, li_100, li_101, li_102, li_103, li_104, li_105, li_106, li_107, li_108, li_109, li_110, li_111, li_112, li_113, li_114, li_115, li_116, li_117, li_118, li_119, li_120, li_128, li_142, li_255, li_320, li_781, li_852, li_999, li_1000, li_2000, li_3000, li_9999, li_12345, li_65536, li_1000000, li_252645135, li_858993459, li_1103515245, li_1431655765, c3.at, h1.at, fX12_isHouse, fX12_in, iI_div2]
  by_cases q1 : E.2.2.1 s < E.1
  · simp (disch := omega) only [gd_t, so_some, so_bind, so_gd, so_none, Option.bind_some, iI_add, iI_sub, iI_mul, iI_neg, iI_clamp, iI_nat, vin_i, iI_le, iI_lt, iI_eq, mn_i, mx_i, if_true, if_false, if_pos, if_neg, li_0, li_1, li_2, li_3, li_4, li_5, li_6, li_7, li_8, li_9, li_10, li_11, li_12, li_14, li_15, li_16, li_20, li_21, li_24, li_28, li_30, li_31, li_40, li_41, li_42, li_43, li_44, li_45, li_47, li_48, li_49, li_57, li_59, li_60, li_61, li_62, li_63, li_70, li_71, li_76, li_80, li_96, li_97, li_98, li_99, li_100, li_101, li_102, li_103, li_104, li_105, li_106, li_107, li_108, li_109, li_110, li_111, li_112, li_113, li_114, li_115, li_116, li_117, li_118, li_119, li_120, li_128, li_142, li_255, li_320, li_781, li_852, li_999, li_1000, li_2000, li_3000, li_9999, li_12345, li_65536, li_1000000, li_252645135, li_858993459, li_1103515245, li_1431655765, isb_1]
    by_cases q4 : s / 2 = E.2.2.1 s
    · simp only [if_pos q4]
      exact key _ q1
    · simp only [if_neg q4]
      exact key _ q1
  · simp (disch := omega) only [gd_t, so_some, so_bind, so_gd, so_none, Option.bind_some, iI_add, iI_sub, iI_mul, iI_neg, iI_clamp, iI_nat, vin_i, iI_le, iI_lt, iI_eq, mn_i, mx_i, if_true, if_false, if_pos, if_neg, li_0, li_1, li_2, li_3, li_4, li_5, li_6, li_7, li_8, li_9, li_10, li_11, li_12, li_14, li_15, li_16, li_20, li_21, li_24, li_28, li_30, li_31, li_40, li_41, li_42, li_43, li_44, li_45, li_47, li_48, li_49, li_57, li_59, li_60, li_61, li_62, li_63, li_70, li_71, li_76, li_80, li_96, li_97, li_98, li_99, li_100, li_101, li_102, li_103, li_104, li_105, li_106, li_107, li_108, li_109, li_110, li_111, li_112, li_113, li_114, li_115, li_116, li_117, li_118, li_119, li_120, li_128, li_142, li_255, li_320, li_781, li_852, li_999, li_1000, li_2000, li_3000, li_9999, li_12345, li_65536, li_1000000, li_252645135, li_858993459, li_1103515245, li_1431655765, isb_0]
    have d0 : slD E A s bl x = 0 := by unfold slD; rw [if_neg (by omega)]
    have A0 : slA E A s bl x = upI A s 0 := by
      unfold slA; rw [if_neg q1]
    have B0 : slB E A ob s bl x = ob := by unfold slB; rw [if_neg (by omega)]
    rw [d0, A0, B0, Int.add_zero]
    refine ⟨?_, ?_, ?_, h4, u1⟩ <;> first | rfl | trivial
