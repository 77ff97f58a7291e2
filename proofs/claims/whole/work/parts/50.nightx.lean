/-! night: what is done -/
def AcR (acts kind first second : Nat → Int32) (i : Int) : Prop :=
  ∃ K F S : Int, kind i.toNat = iI K ∧ first i.toNat = iI F ∧ acts (4 * i).toNat = iI K ∧
    ((K = 100 ∧ (1 ≤ F ∧ F ≤ 9) ∧ acts (4 * i + 1).toNat = iI F) ∨
     (K = 115 ∧ second i.toNat = iI S ∧ ∃ a c : Int, (0 ≤ a ∧ a ≤ 9) ∧ (0 ≤ c ∧ c ≤ 1) ∧ F = 2 * a + c ∧ (0 ≤ S ∧ S ≤ 99) ∧ acts (4 * i + 1).toNat = iI a ∧ acts (4 * i + 2).toNat = iI S ∧ acts (4 * i + 3).toNat = iI c) ∨
     (K = 99 ∧ second i.toNat = iI S ∧ (0 ≤ F ∧ F ≤ 9) ∧ (0 ≤ S ∧ S ≤ 99) ∧ acts (4 * i + 1).toNat = iI F ∧ acts (4 * i + 2).toNat = iI S) ∨
     (K = 108 ∧ second i.toNat = iI S ∧ ∃ b c : Int, (0 ≤ F ∧ F ≤ 9) ∧ (0 ≤ b ∧ b ≤ 9) ∧ (0 ≤ c ∧ c ≤ 1) ∧ S = 2 * b + c ∧ acts (4 * i + 1).toNat = iI F ∧ acts (4 * i + 2).toNat = iI b ∧ acts (4 * i + 3).toNat = iI c))
/-- a walk, as both have it -/
def Wm (x : FW) (y : MW) : Prop := x.1 = y.1
theorem s_act {E : EN} (G : EnG E) {hoC cy le : Int32} {hold below inches code : Nat → Int32} (C : EnC E hoC cy le hold below inches code) {hoM many size : Int32} {holdM belowM weather rule : Nat → Int32} (M : EnM E hoM many size holdM belowM weather rule)
    {acts kind first second : Nat → Int32} {i : Int} (i0 : 0 ≤ i) (i1 : i < 30) (AC : AcR acts kind first second i) {x : FW} {y : MW} (W : Wm x y) (hA : WA x.1.1) (Z : ZB E.1 x.1.1) (a7 : x.1.1 70 < 2147400000)
    {owed slides struck slid now : Int32} {snow path debt owedBy : Nat → Int32} (K : Wk x owed slides struck slid now snow path debt owedBy) (things stack : Nat → Int32)
    {sm on si : Int32} {oM a : Nat → Int32} (L : Mk y sm on si oM a) (rr : Nat) (len top at' wrong asked i1' i2 i3 i4 i5 i6 : Int32) :
    So (fX11_doAct kind first owed slides struck slid now cy hoC le inches snow path hold below things stack code debt owedBy second (iI i)) (fun o =>
      So (fX12_act hoM many rr len top at' wrong size asked i1' i2 i3 i4 i5 i6 sm on si acts weather holdM belowM rule oM a (iI (4 * i))) (fun p =>
        ∃ (v : Int) (x' : FW) (y' : MW), o.1 = iI v ∧ -2147483648 ≤ v ∧ v < 2147483648 ∧ p.1 = iI (if v < 0 then 0 else 1) ∧ Wm x' y' ∧ WA x'.1.1 ∧ ZB E.1 x'.1.1 ∧ x'.1.1 70 ≤ x.1.1 70 + 9 ∧ (v < 0 → x'.1.1 = x.1.1) ∧
          Wk x' o.2.1 o.2.2.1 o.2.2.2.1 o.2.2.2.2.1 o.2.2.2.2.2.1 o.2.2.2.2.2.2.1 o.2.2.2.2.2.2.2.1 o.2.2.2.2.2.2.2.2.2.2.1 o.2.2.2.2.2.2.2.2.2.2.2 ∧
          Mk y' p.2.2.2.2.2.2.2.2.2.2.2.2.2.1 p.2.2.2.2.2.2.2.2.2.2.2.2.2.2.1 p.2.2.2.2.2.2.2.2.2.2.2.2.2.2.2.1 p.2.2.2.2.2.2.2.2.2.2.2.2.2.2.2.2.1 p.2.2.2.2.2.2.2.2.2.2.2.2.2.2.2.2.2)) := by
  have g := G.1
  have W : x.1 = y.1 := W
  have hAy : WA y.1.1 := by rw [← W]; exact hA
  have a70 := hA.2.2
  obtain ⟨KK, F, S, e1, e2, e3, cs⟩ := AC
  obtain ⟨k1, k2, k3, k4, ⟨k5, k6, k7, k8⟩, k9⟩ := K
  obtain ⟨l1, l2, l3, l4, l5⟩ := L
  unfold fX11_doAct fX12_act
  rcases cs with ⟨rfl, f0, e4⟩ | ⟨rfl, e4, aa, cc, a0, c0, rfl, s0, e5, e6, e7⟩ | ⟨rfl, e4, f0, s0, e5, e6⟩ | ⟨rfl, e4, bb, cc, f0, b0, c0, rfl, e5, e6, e7⟩
  · simp (disch := omega) only [gd_t, so_some, so_bind, so_gd, so_none, Option.bind_some, iI_add, iI_sub, iI_mul, iI_neg, iI_clamp, iI_nat, vin_i, iI_le, iI_lt, iI_eq, mn_i, mx_i, if_true, if_false, if_pos, if_neg, li_0, li_1, li_2, li_3, li_4, li_5, li_6, li_7, li_8, li_9, li_10, li_11, li_12, li_14, li_15, li_16, li_20, li_21, li_24, li_28, li_30, li_31, li_40, li_41, li_42, li_43, li_44, li_45, li_47, li_48, li_49, li_57, li_59, li_60, li_61, li_62, li_63, li_70, li_71, li_76, li_80, li_96, li_97, li_98, li_99, li_100, li_101, li_102, li_103, li_104, li_105, li_106, li_107, li_108, li_109, li_110, li_111, li_112, li_113, li_114, li_115, li_116, li_117, li_118, li_119, li_120, li_128, li_142, li_255, li_320, li_781, li_852, li_999, li_1000, li_2000, li_3000, li_9999, li_12345, li_65536, li_1000000, li_252645135, li_858993459, li_1103515245, li_1431655765, e1, e2, e3, e4, ac_eq]
    refine so_mono (c_goDays G C hA (n := F) (by omega) (by omega) (by omega) ⟨k1, k2, k3, k4, ⟨k5, k6, k7, k8⟩, k9⟩ things stack) ?_
    intro o ho
    refine so_mono (m_days G M (x := y) hAy (N := F) (by omega) (by omega) (by rw [← W]; omega) rr len top at' wrong asked i1' i2 i3 i4 i5 i6 ⟨l1, l2, l3, l4, l5⟩) ?_
    intro p hp
    have dk := dys_ok G F.toNat hA
    have e70 : (fdys E F.toNat x).1.1 70 = x.1.1 70 + (F.toNat : Int) := by rw [fdys_1]; exact dk.2
    refine ⟨0, fdys E F.toNat x, mdys E F.toNat y, rfl, by omega, by omega, ?_, ?_, ?_, ?_, by omega, fun z => by omega, ho, hp⟩
    · rw [if_neg (by omega)]
    · show (fdys E F.toNat x).1 = (mdys E F.toNat y).1
      rw [fdys_1, mdys_1, W]
    · rw [fdys_1]; exact dk.1
    · rw [fdys_1]; exact zb_dys G F.toNat Z
  · unfold fX11_sweepNow fX12_sweepRefusal
    rw [C.1, M.1]
    by_cases q1 : aa < E.1
    · have z1 := isH_t (h := E.1) (x := aa) g.1 g.2 ⟨a0.1, q1⟩
      have z2 := hasS_t (h := E.1) (x := 2 * aa + cc) g.1 g.2 (by omega)
      have z3 := isS_t (h := E.1) (x := 2 * aa + cc) g.1 g.2 (by omega)
      by_cases q2 : 1 ≤ S ∧ S ≤ 99
      · have z4 := win_t (a := S) (b := 1) (c := 99) (by omega) (by omega) q2
        have z5 := in_t (a := S) (b := 1) (c := 99) (by omega) (by omega) q2
        have as := hA.1 (2 * aa + cc) (by omega) (by omega)
        rw [W] at as
        by_cases q3 : S ≤ y.1.1 (2 * aa + cc)
        · have k6' := k6
          rw [W] at k6'
          simp (disch := omega) only [gd_t, so_some, so_bind, so_gd, so_none, Option.bind_some, iI_add, iI_sub, iI_mul, iI_neg, iI_clamp, iI_nat, vin_i, iI_le, iI_lt, iI_eq, mn_i, mx_i, if_true, if_false, if_pos, if_neg, li_0, li_1, li_2, li_3, li_4, li_5, li_6, li_7, li_8, li_9, li_10, li_11, li_12, li_14, li_15, li_16, li_20, li_21, li_24, li_28, li_30, li_31, li_40, li_41, li_42, li_43, li_44, li_45, li_47, li_48, li_49, li_57, li_59, li_60, li_61, li_62, li_63, li_70, li_71, li_76, li_80, li_96, li_97, li_98, li_99, li_100, li_101, li_102, li_103, li_104, li_105, li_106, li_107, li_108, li_109, li_110, li_111, li_112, li_113, li_114, li_115, li_116, li_117, li_118, li_119, li_120, li_128, li_142, li_255, li_320, li_781, li_852, li_999, li_1000, li_2000, li_3000, li_9999, li_12345, li_65536, li_1000000, li_252645135, li_858993459, li_1103515245, li_1431655765, e1, e2, e3, e4, e5, e6, e7, z1, z2, z3, z4, z5, k6'.at, l5.at, xor1]
          refine so_mono (c_shift hA k6 (s := 2 * aa + cc) (k := S) (by omega) (by omega) (by omega) (by omega)) ?_
          rintro o ⟨o1, o2⟩
          rw [W, show min S (y.1.1 (2 * aa + cc)) = S by omega] at o2
          have ob := ot_b (s := 2 * aa + cc) (h := 7) (by omega) (by omega)
          simp (disch := omega) only [gd_t, so_some, so_bind, so_gd, so_none, Option.bind_some, iI_add, iI_sub, iI_mul, iI_neg, iI_clamp, iI_nat, vin_i, iI_le, iI_lt, iI_eq, mn_i, mx_i, if_true, if_false, if_pos, if_neg, li_0, li_1, li_2, li_3, li_4, li_5, li_6, li_7, li_8, li_9, li_10, li_11, li_12, li_14, li_15, li_16, li_20, li_21, li_24, li_28, li_30, li_31, li_40, li_41, li_42, li_43, li_44, li_45, li_47, li_48, li_49, li_57, li_59, li_60, li_61, li_62, li_63, li_70, li_71, li_76, li_80, li_96, li_97, li_98, li_99, li_100, li_101, li_102, li_103, li_104, li_105, li_106, li_107, li_108, li_109, li_110, li_111, li_112, li_113, li_114, li_115, li_116, li_117, li_118, li_119, li_120, li_128, li_142, li_255, li_320, li_781, li_852, li_999, li_1000, li_2000, li_3000, li_9999, li_12345, li_65536, li_1000000, li_252645135, li_858993459, li_1103515245, li_1431655765, o2.at]
          refine so_mono (m_sweeps hAy l5 (s := 2 * aa + cc) (v := S) (by omega) (by omega) (by omega) (by omega)) ?_
          intro p hp
          have ws := wa_sw hAy (s := 2 * aa + cc) (v := S) (by omega) (by omega) (by omega) q3
          have sb := ws.1 (ot (2 * aa + cc)) (by omega) (by omega)
          have Zy : ZB E.1 y.1.1 := by rw [← W]; exact Z
          have hi : ∀ i, 14 ≤ i → swA y.1.1 (2 * aa + cc) S i = x.1.1 i := fun i hi => by rw [W]; exact sw_hi (by omega) (by omega) hi
          refine ⟨swA y.1.1 (2 * aa + cc) S (ot (2 * aa + cc)), ((swA y.1.1 (2 * aa + cc) S, x.1.2), x.2), ((swA y.1.1 (2 * aa + cc) S, y.1.2), y.2), (by first | rfl | trivial), by omega, by omega, ?_, ?_, ws, zb_sw g.2 Zy (by omega) (by omega), ?_, fun z => by omega, ⟨k1, k2, k3, k4, ⟨?_, o2, k7.congr (fun i i0 i1 => (hi _ (by omega)).symm), k8.congr (fun i i0 i1 => (hi _ (by omega)).symm)⟩, k9⟩, ⟨l1, l2, l3, l4, hp⟩⟩
          · rw [if_neg (by omega)]
          · show (swA y.1.1 (2 * aa + cc) S, x.1.2) = (swA y.1.1 (2 * aa + cc) S, y.1.2)
            rw [W]
          · show swA y.1.1 (2 * aa + cc) S 70 ≤ _
            rw [hi 70 (by omega)]; omega
          · show now = iI (swA y.1.1 (2 * aa + cc) S 70)
            rw [hi 70 (by omega)]; exact k5
        · have k6' := k6
          rw [W] at k6'
          simp (disch := omega) only [gd_t, so_some, so_bind, so_gd, so_none, Option.bind_some, iI_add, iI_sub, iI_mul, iI_neg, iI_clamp, iI_nat, vin_i, iI_le, iI_lt, iI_eq, mn_i, mx_i, if_true, if_false, if_pos, if_neg, li_0, li_1, li_2, li_3, li_4, li_5, li_6, li_7, li_8, li_9, li_10, li_11, li_12, li_14, li_15, li_16, li_20, li_21, li_24, li_28, li_30, li_31, li_40, li_41, li_42, li_43, li_44, li_45, li_47, li_48, li_49, li_57, li_59, li_60, li_61, li_62, li_63, li_70, li_71, li_76, li_80, li_96, li_97, li_98, li_99, li_100, li_101, li_102, li_103, li_104, li_105, li_106, li_107, li_108, li_109, li_110, li_111, li_112, li_113, li_114, li_115, li_116, li_117, li_118, li_119, li_120, li_128, li_142, li_255, li_320, li_781, li_852, li_999, li_1000, li_2000, li_3000, li_9999, li_12345, li_65536, li_1000000, li_252645135, li_858993459, li_1103515245, li_1431655765, e1, e2, e3, e4, e5, e6, e7, z1, z2, z3, z4, z5, k6'.at, l5.at]
          exact ⟨-2, x, y, (by first | rfl | trivial), by omega, by omega, by rw [if_pos (by omega)], W, hA, Z, by omega, fun _ => rfl, ⟨k1, k2, k3, k4, ⟨k5, k6, k7, k8⟩, k9⟩, ⟨l1, l2, l3, l4, l5⟩⟩
      · have z4 := win_f (a := S) (b := 1) (c := 99) (by omega) (by omega) (by omega) (by omega) (by omega) (by omega) q2
        have z5 := in_f (a := S) (b := 1) (c := 99) (by omega) (by omega) (by omega) (by omega) (by omega) (by omega) q2
        simp (disch := omega) only [gd_t, so_some, so_bind, so_gd, so_none, Option.bind_some, iI_add, iI_sub, iI_mul, iI_neg, iI_clamp, iI_nat, vin_i, iI_le, iI_lt, iI_eq, mn_i, mx_i, if_true, if_false, if_pos, if_neg, li_0, li_1, li_2, li_3, li_4, li_5, li_6, li_7, li_8, li_9, li_10, li_11, li_12, li_14, li_15, li_16, li_20, li_21, li_24, li_28, li_30, li_31, li_40, li_41, li_42, li_43, li_44, li_45, li_47, li_48, li_49, li_57, li_59, li_60, li_61, li_62, li_63, li_70, li_71, li_76, li_80, li_96, li_97, li_98, li_99, li_100, li_101, li_102, li_103, li_104, li_105, li_106, li_107, li_108, li_109, li_110, li_111, li_112, li_113, li_114, li_115, li_116, li_117, li_118, li_119, li_120, li_128, li_142, li_255, li_320, li_781, li_852, li_999, li_1000, li_2000, li_3000, li_9999, li_12345, li_65536, li_1000000, li_252645135, li_858993459, li_1103515245, li_1431655765, e1, e2, e3, e4, e5, e6, e7, z1, z2, z3, z4, z5]
        exact ⟨-1, x, y, (by first | rfl | trivial), by omega, by omega, by rw [if_pos (by omega)], W, hA, Z, by omega, fun _ => rfl, ⟨k1, k2, k3, k4, ⟨k5, k6, k7, k8⟩, k9⟩, ⟨l1, l2, l3, l4, l5⟩⟩
    · have z1 := isH_f (h := E.1) (x := aa) g.1 g.2 (by omega) (by omega) (by omega)
      have z2 := hasS_f (h := E.1) (x := 2 * aa + cc) g.1 g.2 (by omega) (by omega) (by omega)
      simp (disch := omega) only [gd_t, so_some, so_bind, so_gd, so_none, Option.bind_some, iI_add, iI_sub, iI_mul, iI_neg, iI_clamp, iI_nat, vin_i, iI_le, iI_lt, iI_eq, mn_i, mx_i, if_true, if_false, if_pos, if_neg, li_0, li_1, li_2, li_3, li_4, li_5, li_6, li_7, li_8, li_9, li_10, li_11, li_12, li_14, li_15, li_16, li_20, li_21, li_24, li_28, li_30, li_31, li_40, li_41, li_42, li_43, li_44, li_45, li_47, li_48, li_49, li_57, li_59, li_60, li_61, li_62, li_63, li_70, li_71, li_76, li_80, li_96, li_97, li_98, li_99, li_100, li_101, li_102, li_103, li_104, li_105, li_106, li_107, li_108, li_109, li_110, li_111, li_112, li_113, li_114, li_115, li_116, li_117, li_118, li_119, li_120, li_128, li_142, li_255, li_320, li_781, li_852, li_999, li_1000, li_2000, li_3000, li_9999, li_12345, li_65536, li_1000000, li_252645135, li_858993459, li_1103515245, li_1431655765, e1, e2, e3, e4, e5, e6, e7, z1, z2]
      exact ⟨-1, x, y, (by first | rfl | trivial), by omega, by omega, by rw [if_pos (by omega)], W, hA, Z, by omega, fun _ => rfl, ⟨k1, k2, k3, k4, ⟨k5, k6, k7, k8⟩, k9⟩, ⟨l1, l2, l3, l4, l5⟩⟩
  · unfold fX11_clearNow fX12_clearRefusal
    rw [C.1, M.1]
    by_cases q1 : F < E.1
    · have z1 := isH_t (h := E.1) (x := F) g.1 g.2 ⟨f0.1, q1⟩
      have z2 := has_t (h := E.1) (x := F) g.1 g.2 ⟨f0.1, q1⟩
      by_cases q2 : 1 ≤ S ∧ S ≤ 99
      · have z4 := win_t (a := S) (b := 1) (c := 99) (by omega) (by omega) q2
        have z5 := in_t (a := S) (b := 1) (c := 99) (by omega) (by omega) q2
        have as := hA.1 (14 + F) (by omega) (by omega)
        rw [W] at as
        have k7' := k7
        rw [W] at k7'
        by_cases q3 : S ≤ y.1.1 (14 + F)
        · have u1 := k7'.up (k := F) (y.1.1 (14 + F) - S) (by omega)
          have u2 := l5.up (k := 14 + F) (y.1.1 (14 + F) - S) (by omega)
          simp (disch := omega) only [gd_t, so_some, so_bind, so_gd, so_none, Option.bind_some, iI_add, iI_sub, iI_mul, iI_neg, iI_clamp, iI_nat, vin_i, iI_le, iI_lt, iI_eq, mn_i, mx_i, if_true, if_false, if_pos, if_neg, li_0, li_1, li_2, li_3, li_4, li_5, li_6, li_7, li_8, li_9, li_10, li_11, li_12, li_14, li_15, li_16, li_20, li_21, li_24, li_28, li_30, li_31, li_40, li_41, li_42, li_43, li_44, li_45, li_47, li_48, li_49, li_57, li_59, li_60, li_61, li_62, li_63, li_70, li_71, li_76, li_80, li_96, li_97, li_98, li_99, li_100, li_101, li_102, li_103, li_104, li_105, li_106, li_107, li_108, li_109, li_110, li_111, li_112, li_113, li_114, li_115, li_116, li_117, li_118, li_119, li_120, li_128, li_142, li_255, li_320, li_781, li_852, li_999, li_1000, li_2000, li_3000, li_9999, li_12345, li_65536, li_1000000, li_252645135, li_858993459, li_1103515245, li_1431655765, e1, e2, e3, e4, e5, e6, z1, z2, z4, z5, k7'.at, l5.at, u1.at, u2.at, upI_s]
          have Zy : ZB E.1 y.1.1 := by rw [← W]; exact Z
          have hi : ∀ i, i ≠ 14 + F → upI y.1.1 (14 + F) (y.1.1 (14 + F) - S) i = x.1.1 i := fun i hi => by rw [upI_o _ hi, W]
          refine ⟨y.1.1 (14 + F) - S, ((upI y.1.1 (14 + F) (y.1.1 (14 + F) - S), x.1.2), x.2), ((upI y.1.1 (14 + F) (y.1.1 (14 + F) - S), y.1.2), y.2), (by first | rfl | trivial), by omega, by omega, ?_, ?_, hAy.up (fun _ _ => by omega) (fun _ _ => by omega) (fun _ => by omega), Zy.up (by omega) (by omega) (by omega) g.2, ?_, fun z => by omega, ⟨k1, k2, k3, k4, ⟨?_, k6.congr (fun i i0 i1 => (hi _ (by omega)).symm), u1.congr (fun i i0 i1 => ?_), k8.congr (fun i i0 i1 => (hi _ (by omega)).symm)⟩, k9⟩, ⟨l1, l2, l3, l4, u2⟩⟩
          · rw [if_neg (by omega)]
          · show (upI y.1.1 (14 + F) (y.1.1 (14 + F) - S), x.1.2) = (upI y.1.1 (14 + F) (y.1.1 (14 + F) - S), y.1.2)
            rw [W]
          · show upI y.1.1 (14 + F) (y.1.1 (14 + F) - S) 70 ≤ _
            rw [hi 70 (by omega)]; omega
          · show now = iI (upI y.1.1 (14 + F) (y.1.1 (14 + F) - S) 70)
            rw [hi 70 (by omega)]; exact k5
          · show _ = upI y.1.1 (14 + F) (y.1.1 (14 + F) - S) (14 + i)
            by_cases w : i = F
            · rw [w, upI_s, upI_s]
            · rw [upI_o _ w, upI_o _ (by omega)]
        · simp (disch := omega) only [gd_t, so_some, so_bind, so_gd, so_none, Option.bind_some, iI_add, iI_sub, iI_mul, iI_neg, iI_clamp, iI_nat, vin_i, iI_le, iI_lt, iI_eq, mn_i, mx_i, if_true, if_false, if_pos, if_neg, li_0, li_1, li_2, li_3, li_4, li_5, li_6, li_7, li_8, li_9, li_10, li_11, li_12, li_14, li_15, li_16, li_20, li_21, li_24, li_28, li_30, li_31, li_40, li_41, li_42, li_43, li_44, li_45, li_47, li_48, li_49, li_57, li_59, li_60, li_61, li_62, li_63, li_70, li_71, li_76, li_80, li_96, li_97, li_98, li_99, li_100, li_101, li_102, li_103, li_104, li_105, li_106, li_107, li_108, li_109, li_110, li_111, li_112, li_113, li_114, li_115, li_116, li_117, li_118, li_119, li_120, li_128, li_142, li_255, li_320, li_781, li_852, li_999, li_1000, li_2000, li_3000, li_9999, li_12345, li_65536, li_1000000, li_252645135, li_858993459, li_1103515245, li_1431655765, e1, e2, e3, e4, e5, e6, z1, z2, z4, z5, k7'.at, l5.at]
          exact ⟨-2, x, y, (by first | rfl | trivial), by omega, by omega, by rw [if_pos (by omega)], W, hA, Z, by omega, fun _ => rfl, ⟨k1, k2, k3, k4, ⟨k5, k6, k7, k8⟩, k9⟩, ⟨l1, l2, l3, l4, l5⟩⟩
      · have z4 := win_f (a := S) (b := 1) (c := 99) (by omega) (by omega) (by omega) (by omega) (by omega) (by omega) q2
        have z5 := in_f (a := S) (b := 1) (c := 99) (by omega) (by omega) (by omega) (by omega) (by omega) (by omega) q2
        simp (disch := omega) only [gd_t, so_some, so_bind, so_gd, so_none, Option.bind_some, iI_add, iI_sub, iI_mul, iI_neg, iI_clamp, iI_nat, vin_i, iI_le, iI_lt, iI_eq, mn_i, mx_i, if_true, if_false, if_pos, if_neg, li_0, li_1, li_2, li_3, li_4, li_5, li_6, li_7, li_8, li_9, li_10, li_11, li_12, li_14, li_15, li_16, li_20, li_21, li_24, li_28, li_30, li_31, li_40, li_41, li_42, li_43, li_44, li_45, li_47, li_48, li_49, li_57, li_59, li_60, li_61, li_62, li_63, li_70, li_71, li_76, li_80, li_96, li_97, li_98, li_99, li_100, li_101, li_102, li_103, li_104, li_105, li_106, li_107, li_108, li_109, li_110, li_111, li_112, li_113, li_114, li_115, li_116, li_117, li_118, li_119, li_120, li_128, li_142, li_255, li_320, li_781, li_852, li_999, li_1000, li_2000, li_3000, li_9999, li_12345, li_65536, li_1000000, li_252645135, li_858993459, li_1103515245, li_1431655765, e1, e2, e3, e4, e5, e6, z1, z2, z4, z5]
        exact ⟨-1, x, y, (by first | rfl | trivial), by omega, by omega, by rw [if_pos (by omega)], W, hA, Z, by omega, fun _ => rfl, ⟨k1, k2, k3, k4, ⟨k5, k6, k7, k8⟩, k9⟩, ⟨l1, l2, l3, l4, l5⟩⟩
    · have z1 := isH_f (h := E.1) (x := F) g.1 g.2 (by omega) (by omega) (by omega)
      have z2 := has_f (h := E.1) (x := F) g.1 g.2 (by omega) (by omega) (by omega)
      simp (disch := omega) only [gd_t, so_some, so_bind, so_gd, so_none, Option.bind_some, iI_add, iI_sub, iI_mul, iI_neg, iI_clamp, iI_nat, vin_i, iI_le, iI_lt, iI_eq, mn_i, mx_i, if_true, if_false, if_pos, if_neg, li_0, li_1, li_2, li_3, li_4, li_5, li_6, li_7, li_8, li_9, li_10, li_11, li_12, li_14, li_15, li_16, li_20, li_21, li_24, li_28, li_30, li_31, li_40, li_41, li_42, li_43, li_44, li_45, li_47, li_48, li_49, li_57, li_59, li_60, li_61, li_62, li_63, li_70, li_71, li_76, li_80, li_96, li_97, li_98, li_99, li_100, li_101, li_102, li_103, li_104, li_105, li_106, li_107, li_108, li_109, li_110, li_111, li_112, li_113, li_114, li_115, li_116, li_117, li_118, li_119, li_120, li_128, li_142, li_255, li_320, li_781, li_852, li_999, li_1000, li_2000, li_3000, li_9999, li_12345, li_65536, li_1000000, li_252645135, li_858993459, li_1103515245, li_1431655765, e1, e2, e3, e4, e5, e6, z1, z2]
      exact ⟨-1, x, y, (by first | rfl | trivial), by omega, by omega, by rw [if_pos (by omega)], W, hA, Z, by omega, fun _ => rfl, ⟨k1, k2, k3, k4, ⟨k5, k6, k7, k8⟩, k9⟩, ⟨l1, l2, l3, l4, l5⟩⟩
  · unfold fX11_looseNow fX12_looseRefusal
    by_cases q1 : F < E.1
    · have z1 := isH_t (h := E.1) (x := F) g.1 g.2 ⟨f0.1, q1⟩
      have z2 := has_t (h := E.1) (x := F) g.1 g.2 ⟨f0.1, q1⟩
      rw [← C.1] at z2
      rw [← M.1] at z1
      by_cases q2 : bb < E.1
      · have z3 := isH_t (h := E.1) (x := bb) g.1 g.2 ⟨b0.1, q2⟩
        have z4 := hasS_t (h := E.1) (x := 2 * bb + cc) g.1 g.2 (by omega)
        have z5 := isS_t (h := E.1) (x := 2 * bb + cc) g.1 g.2 (by omega)
        rw [← C.1] at z4
        rw [← M.1] at z3 z5
        have as := hA.1 (2 * bb + cc) (by omega) (by omega)
        rw [W] at as
        have k6' := k6
        rw [W] at k6'
        by_cases q3 : y.1.1 (2 * bb + cc) = 0
        · simp (disch := omega) only [gd_t, so_some, so_bind, so_gd, so_none, Option.bind_some, iI_add, iI_sub, iI_mul, iI_neg, iI_clamp, iI_nat, vin_i, iI_le, iI_lt, iI_eq, mn_i, mx_i, if_true, if_false, if_pos, if_neg, li_0, li_1, li_2, li_3, li_4, li_5, li_6, li_7, li_8, li_9, li_10, li_11, li_12, li_14, li_15, li_16, li_20, li_21, li_24, li_28, li_30, li_31, li_40, li_41, li_42, li_43, li_44, li_45, li_47, li_48, li_49, li_57, li_59, li_60, li_61, li_62, li_63, li_70, li_71, li_76, li_80, li_96, li_97, li_98, li_99, li_100, li_101, li_102, li_103, li_104, li_105, li_106, li_107, li_108, li_109, li_110, li_111, li_112, li_113, li_114, li_115, li_116, li_117, li_118, li_119, li_120, li_128, li_142, li_255, li_320, li_781, li_852, li_999, li_1000, li_2000, li_3000, li_9999, li_12345, li_65536, li_1000000, li_252645135, li_858993459, li_1103515245, li_1431655765, e1, e2, e3, e4, e5, e6, e7, z1, z2, z3, z4, z5, k6'.at, l5.at]
          exact ⟨-2, x, y, (by first | rfl | trivial), by omega, by omega, by rw [if_pos (by omega)], W, hA, Z, by omega, fun _ => rfl, ⟨k1, k2, k3, k4, ⟨k5, k6, k7, k8⟩, k9⟩, ⟨l1, l2, l3, l4, l5⟩⟩
        · have hsl := c_slide G C hA (by omega) k6 k7 k8 k9 (ow := x.1.2.1) (s := 2 * bb + cc) (bl := F) (x := 1) (things := things) (stack := stack) (by omega) (by omega) f0.1 q1 (Or.inr rfl)
          rw [← k1, ← k5] at hsl
          have hms := m_slide G M hAy (by rw [← W]; omega) l5 l4 (rr := rr) (len := len) (top := top) (at' := at') (wrong := wrong) (asked := asked) (i1 := i1') (i2 := i2) (i3 := i3) (i4 := i4) (i5 := i5) (i6 := i6) (si := si) (sm := y.2.1) (on := y.1.2.1) (s := 2 * bb + cc) (bl := F) (x := 1) (by omega) (by omega) f0.1 q1
          rw [← l1, ← l2] at hms
          obtain ⟨ms, hms0, ms1, ms2, ms3, ms4, ms5⟩ := hms
          simp (disch := omega) only [gd_t, so_some, so_bind, so_gd, so_none, Option.bind_some, iI_add, iI_sub, iI_mul, iI_neg, iI_clamp, iI_nat, vin_i, iI_le, iI_lt, iI_eq, mn_i, mx_i, if_true, if_false, if_pos, if_neg, li_0, li_1, li_2, li_3, li_4, li_5, li_6, li_7, li_8, li_9, li_10, li_11, li_12, li_14, li_15, li_16, li_20, li_21, li_24, li_28, li_30, li_31, li_40, li_41, li_42, li_43, li_44, li_45, li_47, li_48, li_49, li_57, li_59, li_60, li_61, li_62, li_63, li_70, li_71, li_76, li_80, li_96, li_97, li_98, li_99, li_100, li_101, li_102, li_103, li_104, li_105, li_106, li_107, li_108, li_109, li_110, li_111, li_112, li_113, li_114, li_115, li_116, li_117, li_118, li_119, li_120, li_128, li_142, li_255, li_320, li_781, li_852, li_999, li_1000, li_2000, li_3000, li_9999, li_12345, li_65536, li_1000000, li_252645135, li_858993459, li_1103515245, li_1431655765, e1, e2, e3, e4, e5, e6, e7, z1, z2, z3, z4, z5, k6'.at, l5.at, hms0]
          refine so_mono hsl ?_
          rintro s ⟨s1, s2, s3, s4, s5⟩
          have b := G.2.2.1 (2 * bb + cc) (by omega) (by omega)
          have e70 : slA E x.1.1 (2 * bb + cc) F 1 70 = x.1.1 70 := slA_hi (by omega) (by omega) (by omega)
          refine ⟨y.1.1 (2 * bb + cc), (slW E (2 * bb + cc) F 1 x.1, x.2), (slW E (2 * bb + cc) F 1 y.1, y.2.1 + 1, ms.2.2.2.2.2.2.2.2.2.2.2.2.2.2.1), (by first | rfl | trivial), by omega, by omega, ?_, ?_, wa_sl G hA (by omega) (by omega) f0.1 q1, zb_sl G Z (by omega) (by omega) f0.1 q1, ?_, fun z => by omega, ⟨s1, k2, k3, k4, ⟨?_, s2, s3, s4⟩, s5⟩, ⟨ms1, ms2, rfl, ms4, ms5⟩⟩
          · rw [if_neg (by omega)]
          · show slW E (2 * bb + cc) F 1 x.1 = slW E (2 * bb + cc) F 1 y.1
            rw [W]
          · show slA E x.1.1 (2 * bb + cc) F 1 70 ≤ _
            rw [e70]; omega
          · show now = iI (slA E x.1.1 (2 * bb + cc) F 1 70)
            rw [e70]; exact k5
      · have z3 := isH_f (h := E.1) (x := bb) g.1 g.2 (by omega) (by omega) (by omega)
        have z4 := hasS_f (h := E.1) (x := 2 * bb + cc) g.1 g.2 (by omega) (by omega) (by omega)
        rw [← C.1] at z4
        rw [← M.1] at z3
        simp (disch := omega) only [gd_t, so_some, so_bind, so_gd, so_none, Option.bind_some, iI_add, iI_sub, iI_mul, iI_neg, iI_clamp, iI_nat, vin_i, iI_le, iI_lt, iI_eq, mn_i, mx_i, if_true, if_false, if_pos, if_neg, li_0, li_1, li_2, li_3, li_4, li_5, li_6, li_7, li_8, li_9, li_10, li_11, li_12, li_14, li_15, li_16, li_20, li_21, li_24, li_28, li_30, li_31, li_40, li_41, li_42, li_43, li_44, li_45, li_47, li_48, li_49, li_57, li_59, li_60, li_61, li_62, li_63, li_70, li_71, li_76, li_80, li_96, li_97, li_98, li_99, li_100, li_101, li_102, li_103, li_104, li_105, li_106, li_107, li_108, li_109, li_110, li_111, li_112, li_113, li_114, li_115, li_116, li_117, li_118, li_119, li_120, li_128, li_142, li_255, li_320, li_781, li_852, li_999, li_1000, li_2000, li_3000, li_9999, li_12345, li_65536, li_1000000, li_252645135, li_858993459, li_1103515245, li_1431655765, e1, e2, e3, e4, e5, e6, e7, z1, z2, z3, z4]
        exact ⟨-1, x, y, (by first | rfl | trivial), by omega, by omega, by rw [if_pos (by omega)], W, hA, Z, by omega, fun _ => rfl, ⟨k1, k2, k3, k4, ⟨k5, k6, k7, k8⟩, k9⟩, ⟨l1, l2, l3, l4, l5⟩⟩
    · have z1 := isH_f (h := E.1) (x := F) g.1 g.2 (by omega) (by omega) (by omega)
      have z2 := has_f (h := E.1) (x := F) g.1 g.2 (by omega) (by omega) (by omega)
      rw [← C.1] at z2
      rw [← M.1] at z1
      by_cases q2 : bb < E.1
      · have z3 := isH_t (h := E.1) (x := bb) g.1 g.2 ⟨b0.1, q2⟩
        rw [← M.1] at z3
        simp (disch := omega) only [gd_t, so_some, so_bind, so_gd, so_none, Option.bind_some, iI_add, iI_sub, iI_mul, iI_neg, iI_clamp, iI_nat, vin_i, iI_le, iI_lt, iI_eq, mn_i, mx_i, if_true, if_false, if_pos, if_neg, li_0, li_1, li_2, li_3, li_4, li_5, li_6, li_7, li_8, li_9, li_10, li_11, li_12, li_14, li_15, li_16, li_20, li_21, li_24, li_28, li_30, li_31, li_40, li_41, li_42, li_43, li_44, li_45, li_47, li_48, li_49, li_57, li_59, li_60, li_61, li_62, li_63, li_70, li_71, li_76, li_80, li_96, li_97, li_98, li_99, li_100, li_101, li_102, li_103, li_104, li_105, li_106, li_107, li_108, li_109, li_110, li_111, li_112, li_113, li_114, li_115, li_116, li_117, li_118, li_119, li_120, li_128, li_142, li_255, li_320, li_781, li_852, li_999, li_1000, li_2000, li_3000, li_9999, li_12345, li_65536, li_1000000, li_252645135, li_858993459, li_1103515245, li_1431655765, e1, e2, e3, e4, e5, e6, e7, z1, z2, z3]
        exact ⟨-1, x, y, (by first | rfl | trivial), by omega, by omega, by rw [if_pos (by omega)], W, hA, Z, by omega, fun _ => rfl, ⟨k1, k2, k3, k4, ⟨k5, k6, k7, k8⟩, k9⟩, ⟨l1, l2, l3, l4, l5⟩⟩
      · have z3 := isH_f (h := E.1) (x := bb) g.1 g.2 (by omega) (by omega) (by omega)
        rw [← M.1] at z3
        simp (disch := omega) only [gd_t, so_some, so_bind, so_gd, so_none, Option.bind_some, iI_add, iI_sub, iI_mul, iI_neg, iI_clamp, iI_nat, vin_i, iI_le, iI_lt, iI_eq, mn_i, mx_i, if_true, if_false, if_pos, if_neg, li_0, li_1, li_2, li_3, li_4, li_5, li_6, li_7, li_8, li_9, li_10, li_11, li_12, li_14, li_15, li_16, li_20, li_21, li_24, li_28, li_30, li_31, li_40, li_41, li_42, li_43, li_44, li_45, li_47, li_48, li_49, li_57, li_59, li_60, li_61, li_62, li_63, li_70, li_71, li_76, li_80, li_96, li_97, li_98, li_99, li_100, li_101, li_102, li_103, li_104, li_105, li_106, li_107, li_108, li_109, li_110, li_111, li_112, li_113, li_114, li_115, li_116, li_117, li_118, li_119, li_120, li_128, li_142, li_255, li_320, li_781, li_852, li_999, li_1000, li_2000, li_3000, li_9999, li_12345, li_65536, li_1000000, li_252645135, li_858993459, li_1103515245, li_1431655765, e1, e2, e3, e4, e5, e6, e7, z1, z2, z3]
        exact ⟨-1, x, y, (by first | rfl | trivial), by omega, by omega, by rw [if_pos (by omega)], W, hA, Z, by omega, fun _ => rfl, ⟨k1, k2, k3, k4, ⟨k5, k6, k7, k8⟩, k9⟩, ⟨l1, l2, l3, l4, l5⟩⟩
