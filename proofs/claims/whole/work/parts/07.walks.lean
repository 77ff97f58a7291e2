/-! walks: days one after another -/
def StC (A : Int → Int) (now : Int32) (snow path debt : Nat → Int32) : Prop := now = iI (A 70) ∧ Arr 14 snow A ∧ Arr 7 path (fun i => A (14 + i)) ∧ Arr 49 debt (fun i => A (21 + i))
abbrev FW : Type := WS × Int × Int32 × Int32
def fdy (E : EN) (x : FW) : FW :=
  (dy E x.1, x.2.1 + cnt E (thw E x.1.1) (dyF E x.1.1) (2 * E.1).toNat 0, stC E (thw E x.1.1) (dyF E x.1.1) (2 * E.1).toNat 0 x.2.2.1, bts E (thw E x.1.1) (dyF E x.1.1) (2 * E.1).toNat 0 0)
def fdys (E : EN) : Nat → FW → FW
  | 0, x => x
  | n + 1, x => fdys E n (fdy E x)
abbrev MW : Type := WS × Int × Int32
def mdy (E : EN) (x : MW) : MW :=
  (dy E x.1, x.2.1 + cnt E (thw E x.1.1) (dyF E x.1.1) (2 * E.1).toNat 0, stM E (thw E x.1.1) (dyF E x.1.1) (2 * E.1).toNat 0 x.2.2)
def mdys (E : EN) : Nat → MW → MW
  | 0, x => x
  | n + 1, x => mdys E n (mdy E x)
theorem fdys_1 (E : EN) : ∀ (n : Nat) (x : FW), (fdys E n x).1 = dys E n x.1
  | 0, _ => rfl
  | n + 1, x => fdys_1 E n (fdy E x)
theorem mdys_1 (E : EN) : ∀ (n : Nat) (x : MW), (mdys E n x).1 = dys E n x.1
  | 0, _ => rfl
  | n + 1, x => mdys_1 E n (mdy E x)
theorem fm_2 (E : EN) : ∀ (n : Nat) (x : FW) (y : MW), x.1 = y.1 → x.2.1 = y.2.1 → (fdys E n x).2.1 = (mdys E n y).2.1
  | 0, _, _, _, h => h
  | n + 1, x, y, h1, h2 => fm_2 E n (fdy E x) (mdy E y) (by show dy E x.1 = dy E y.1; rw [h1]) (by show x.2.1 + _ = y.2.1 + _; rw [h1, h2])
theorem fdys_s (E : EN) : ∀ (n : Nat) (x : FW), fdys E (n + 1) x = fdy E (fdys E n x)
  | 0, _ => rfl
  | n + 1, x => by
    show fdys E (n + 1) (fdy E x) = fdy E (fdys E n (fdy E x))
    rw [fdys_s E n (fdy E x)]
theorem mdys_s (E : EN) : ∀ (n : Nat) (x : MW), mdys E (n + 1) x = mdy E (mdys E n x)
  | 0, _ => rfl
  | n + 1, x => by
    show mdys E (n + 1) (mdy E x) = mdy E (mdys E n (mdy E x))
    rw [mdys_s E n (mdy E x)]
def Wk (x : FW) (owed slides struck slid now : Int32) (snow path debt owedBy : Nat → Int32) : Prop :=
  owed = iI x.1.2.1 ∧ slides = iI x.2.1 ∧ struck = x.2.2.1 ∧ slid = x.2.2.2 ∧ StC x.1.1 now snow path debt ∧ Arr 7 owedBy x.1.2.2
def Mk (x : MW) (sm on si : Int32) (owedBy a : Nat → Int32) : Prop := sm = iI x.2.1 ∧ on = iI x.1.2.1 ∧ si = x.2.2 ∧ Arr 7 owedBy x.1.2.2 ∧ Arr 71 a x.1.1
def ws0 (A : Int → Int) : WS := (A, 0, fun _ => 0)
def fw0 (A : Int → Int) : FW := (ws0 A, 0, 0, 0)
def mw0 (A : Int → Int) : MW := (ws0 A, 0, 0)
theorem c_goDay {E : EN} (G : EnG E) {ho cy le : Int32} {hold below inches code : Nat → Int32} (C : EnC E ho cy le hold below inches code) {x : FW} (hA : WA x.1.1) (hn : x.1.1 70 < 2147483648)
    {owed slides struck slid now : Int32} {snow path debt owedBy : Nat → Int32} (K : Wk x owed slides struck slid now snow path debt owedBy) (things stack : Nat → Int32) :
    So (fX9_goDay owed slides struck slid now cy inches ho snow path hold below le things stack code debt owedBy)
      (fun o => Wk (fdy E x) o.1 o.2.1 o.2.2.1 o.2.2.2.1 o.2.2.2.2.1 o.2.2.2.2.2.1 o.2.2.2.2.2.2.1 o.2.2.2.2.2.2.2.2.2.1 o.2.2.2.2.2.2.2.2.2.2) := by
  obtain ⟨rfl, rfl, rfl, rfl, ⟨rfl, k1, k2, k3⟩, k4⟩ := K
  refine so_mono (c_day G C hA hn k1 k2 k3 k4) ?_
  rintro o ⟨p1, p2, p3, p4, p5, p6, p7, p8, p9⟩
  exact ⟨p1, p2, p3, p4, ⟨p5, p6, p7, p8⟩, p9⟩
theorem m_goDay {E : EN} (G : EnG E) {ho many size : Int32} {hold below weather rule : Nat → Int32} (M : EnM E ho many size hold below weather rule) {x : MW} (hA : WA x.1.1) (hn : x.1.1 70 < 2147483648)
    {sm on si : Int32} {owedBy a : Nat → Int32} (K : Mk x sm on si owedBy a) (rr : Nat) (len top at' wrong asked i1 i2 i3 i4 i5 i6 : Int32) :
    So (fX12_goDay 71 ho many rr len top at' wrong size asked i1 i2 i3 i4 i5 i6 sm on si weather hold below rule owedBy a)
      (fun o => Mk (mdy E x) o.2.2.2.2.2.2.2.2.2.2.2.2.1 o.2.2.2.2.2.2.2.2.2.2.2.2.2.1 o.2.2.2.2.2.2.2.2.2.2.2.2.2.2.1 o.2.2.2.2.2.2.2.2.2.2.2.2.2.2.2.1 o.2.2.2.2.2.2.2.2.2.2.2.2.2.2.2.2) := by
  obtain ⟨rfl, rfl, rfl, k1, k2⟩ := K
  refine so_mono (m_day G M hA hn k1 k2) ?_
  rintro o ⟨p1, p2, p3, p4, p5⟩
  exact ⟨p1, p2, p3, p4, p5⟩
theorem c_takeFrom {A : Int → Int} {now : Int32} {snow path debt : Nat → Int32} (S : StC A now snow path debt) (n0 : Int32) (s0 p0 d0 : Nat → Int32) :
    So (fX5_takeFrom n0 s0 p0 d0 now snow path debt) (fun o => StC A o.1 o.2.1 o.2.2.1 o.2.2.2) := by
  unfold fX5_takeFrom
  rw [so_some]
  exact ⟨S.1, Arr.cp (n := 14) S.2.1, Arr.cp (n := 7) S.2.2.1, Arr.cp (n := 49) S.2.2.2⟩
theorem c_clearTally (o0 s0 t0 d0 : Int32) (b0 : Nat → Int32) : So (fX9_clearTally o0 s0 t0 d0 b0) (fun o => o.1 = iI 0 ∧ o.2.1 = iI 0 ∧ o.2.2.1 = 0 ∧ o.2.2.2.1 = 0 ∧ Arr 7 o.2.2.2.2 (fun _ => 0)) := by
  unfold fX9_clearTally
  rw [so_bind]
  refine so_mono (t_fill (n := 7) (by omega) 0 b0) ?_
  intro o ho
  rw [so_some]
  exact ⟨rfl, rfl, rfl, rfl, ho⟩
theorem c_beginAt {A : Int → Int} {now : Int32} {snow path debt : Nat → Int32} (S : StC A now snow path debt) (o0 s0 t0 d0 n0 : Int32) (sn0 p0 de0 b0 : Nat → Int32) :
    So (fX9_beginAt o0 s0 t0 d0 n0 sn0 p0 de0 b0 now snow path debt) (fun o => Wk (fw0 A) o.1 o.2.1 o.2.2.1 o.2.2.2.1 o.2.2.2.2.1 o.2.2.2.2.2.1 o.2.2.2.2.2.2.1 o.2.2.2.2.2.2.2.1 o.2.2.2.2.2.2.2.2) := by
  unfold fX9_beginAt
  simp only [so_bind]
  refine so_mono (c_takeFrom S n0 sn0 p0 de0) ?_
  intro o ho
  refine so_mono (c_clearTally o0 s0 t0 d0 b0) ?_
  rintro p ⟨p1, p2, p3, p4, p5⟩
  rw [so_some]
  exact ⟨p1, p2, p3, p4, ho, p5⟩
theorem c_goDays_L {E : EN} (G : EnG E) {ho cy le : Int32} {hold below inches code : Nat → Int32} (C : EnC E ho cy le hold below inches code) {N : Int} (hN : N < 2147483648) : ∀ (m : Nat) (k : Int) (f : Nat) (x : FW)
    (owed slides struck slid now : Int32) (snow path things stack debt owedBy : Nat → Int32), 0 ≤ k → k + m = N → m < f → WA x.1.1 → x.1.1 70 + m < 2147483648 → Wk x owed slides struck slid now snow path debt owedBy →
    So (fX9_goDays_L2 cy ho le inches hold below code (iI N) f (iI k) owed slides struck slid now snow path things stack debt owedBy)
      (fun o => Wk (fdys E m x) o.1 o.2.1 o.2.2.1 o.2.2.2.1 o.2.2.2.2.1 o.2.2.2.2.2.1 o.2.2.2.2.2.2.1 o.2.2.2.2.2.2.2.2.2.1 o.2.2.2.2.2.2.2.2.2.2)
  | 0, k, f + 1, x, owed, slides, struck, slid, now, snow, path, things, stack, debt, owedBy, h0, hk, hf, hA, hn, K => by
    rw [fX9_goDays_L2]
    simp (disch := omega) only [gd_t, so_some, so_bind, so_gd, so_none, Option.bind_some, iI_add, iI_sub, iI_mul, iI_neg, iI_clamp, iI_nat, vin_i, iI_le, iI_lt, iI_eq, mn_i, mx_i, if_true, if_false, if_pos, if_neg, li_0, li_1, li_2, li_3, li_4, li_5, li_6, li_7, li_8, li_9, li_10, li_11, li_12, li_14, li_15, li_16, li_20, li_21, li_24, li_28, li_30, li_31, li_40, li_41, li_42, li_43, li_44, li_45, li_47, li_48, li_49, li_57, li_59, li_60, li_61, li_62, li_63, li_70, li_71, li_76, li_80, li_96, li_97, li_98, li_99, li_100, li_101, li_102, li_103, li_104, li_105, li_106, li_107, li_108, li_109, li_110, li_111, li_112, li_113, li_114, li_115, li_116, li_117, li_118, li_119, li_120, li_128, li_142, li_255, li_320, li_781, li_852, li_999, li_1000, li_2000, li_3000, li_9999, li_12345, li_65536, li_1000000, li_252645135, li_858993459, li_1103515245, li_1431655765]
    exact K
  | m + 1, k, f + 1, x, owed, slides, struck, slid, now, snow, path, things, stack, debt, owedBy, h0, hk, hf, hA, hn, K => by
    rw [fX9_goDays_L2]
    simp (disch := omega) only [gd_t, so_some, so_bind, so_gd, so_none, Option.bind_some, iI_add, iI_sub, iI_mul, iI_neg, iI_clamp, iI_nat, vin_i, iI_le, iI_lt, iI_eq, mn_i, mx_i, if_true, if_false, if_pos, if_neg, li_0, li_1, li_2, li_3, li_4, li_5, li_6, li_7, li_8, li_9, li_10, li_11, li_12, li_14, li_15, li_16, li_20, li_21, li_24, li_28, li_30, li_31, li_40, li_41, li_42, li_43, li_44, li_45, li_47, li_48, li_49, li_57, li_59, li_60, li_61, li_62, li_63, li_70, li_71, li_76, li_80, li_96, li_97, li_98, li_99, li_100, li_101, li_102, li_103, li_104, li_105, li_106, li_107, li_108, li_109, li_110, li_111, li_112, li_113, li_114, li_115, li_116, li_117, li_118, li_119, li_120, li_128, li_142, li_255, li_320, li_781, li_852, li_999, li_1000, li_2000, li_3000, li_9999, li_12345, li_65536, li_1000000, li_252645135, li_858993459, li_1103515245, li_1431655765]
    refine so_mono (c_goDay G C hA (by omega) K things stack) ?_
    intro o ho
    refine c_goDays_L G C hN m (k + 1) f (fdy E x) _ _ _ _ _ _ _ _ _ _ _ (by omega) (by omega) (by omega) (wa_dy G hA) ?_ ho
    show (dy E x.1).1 70 + (m : Int) < 2147483648
    rw [dy_70]
    omega
theorem c_goDays {E : EN} (G : EnG E) {ho cy le : Int32} {hold below inches code : Nat → Int32} (C : EnC E ho cy le hold below inches code) {x : FW} (hA : WA x.1.1) {n : Int} (hn0 : 0 ≤ n) (hn1 : n < 4000) (hn : x.1.1 70 + n < 2147483648)
    {owed slides struck slid now : Int32} {snow path debt owedBy : Nat → Int32} (K : Wk x owed slides struck slid now snow path debt owedBy) (things stack : Nat → Int32) :
    So (fX9_goDays owed slides struck slid now cy ho le inches snow path hold below things stack code debt owedBy (iI n))
      (fun o => Wk (fdys E n.toNat x) o.1 o.2.1 o.2.2.1 o.2.2.2.1 o.2.2.2.2.1 o.2.2.2.2.2.1 o.2.2.2.2.2.2.1 o.2.2.2.2.2.2.2.2.2.1 o.2.2.2.2.2.2.2.2.2.2) := by
  unfold fX9_goDays
  rw [so_bind, li_0]
  refine so_mono (c_goDays_L G C (N := n) (by omega) n.toNat 0 FU x _ _ _ _ _ _ _ things stack _ _ (by omega) (by omega) (show _ < 4000 by omega) hA (by omega) K) ?_
  intro o ho
  rw [so_some]
  exact ho
theorem c_walkFrom_L {E : EN} (G : EnG E) {ho cy le : Int32} {hold below inches code : Nat → Int32} (C : EnC E ho cy le hold below inches code) {N : Int} (hN : N < 2147483648) : ∀ (m : Nat) (k : Int) (f : Nat) (x : FW)
    (owed slides struck slid now : Int32) (snow path debt owedBy things stack : Nat → Int32), 0 ≤ k → k + m = N → m < f → WA x.1.1 → x.1.1 70 + m < 2147483648 → Wk x owed slides struck slid now snow path debt owedBy →
    So (fX9_walkFrom_L7 cy ho le inches hold below code (iI N) f (iI k) owed slides struck slid now snow path debt owedBy things stack)
      (fun o => Wk (fdys E m x) o.1 o.2.1 o.2.2.1 o.2.2.2.1 o.2.2.2.2.1 o.2.2.2.2.2.1 o.2.2.2.2.2.2.1 o.2.2.2.2.2.2.2.1 o.2.2.2.2.2.2.2.2.1)
  | 0, k, f + 1, x, owed, slides, struck, slid, now, snow, path, debt, owedBy, things, stack, h0, hk, hf, hA, hn, K => by
    rw [fX9_walkFrom_L7]
    simp (disch := omega) only [gd_t, so_some, so_bind, so_gd, so_none, Option.bind_some, iI_add, iI_sub, iI_mul, iI_neg, iI_clamp, iI_nat, vin_i, iI_le, iI_lt, iI_eq, mn_i, mx_i, if_true, if_false, if_pos, if_neg, li_0, li_1, li_2, li_3, li_4, li_5, li_6, li_7, li_8, li_9, li_10, li_11, li_12, li_14, li_15, li_16, li_20, li_21, li_24, li_28, li_30, li_31, li_40, li_41, li_42, li_43, li_44, li_45, li_47, li_48, li_49, li_57, li_59, li_60, li_61, li_62, li_63, li_70, li_71, li_76, li_80, li_96, li_97, li_98, li_99, li_100, li_101, li_102, li_103, li_104, li_105, li_106, li_107, li_108, li_109, li_110, li_111, li_112, li_113, li_114, li_115, li_116, li_117, li_118, li_119, li_120, li_128, li_142, li_255, li_320, li_781, li_852, li_999, li_1000, li_2000, li_3000, li_9999, li_12345, li_65536, li_1000000, li_252645135, li_858993459, li_1103515245, li_1431655765]
    exact K
  | m + 1, k, f + 1, x, owed, slides, struck, slid, now, snow, path, debt, owedBy, things, stack, h0, hk, hf, hA, hn, K => by
    rw [fX9_walkFrom_L7]
    simp (disch := omega) only [gd_t, so_some, so_bind, so_gd, so_none, Option.bind_some, iI_add, iI_sub, iI_mul, iI_neg, iI_clamp, iI_nat, vin_i, iI_le, iI_lt, iI_eq, mn_i, mx_i, if_true, if_false, if_pos, if_neg, li_0, li_1, li_2, li_3, li_4, li_5, li_6, li_7, li_8, li_9, li_10, li_11, li_12, li_14, li_15, li_16, li_20, li_21, li_24, li_28, li_30, li_31, li_40, li_41, li_42, li_43, li_44, li_45, li_47, li_48, li_49, li_57, li_59, li_60, li_61, li_62, li_63, li_70, li_71, li_76, li_80, li_96, li_97, li_98, li_99, li_100, li_101, li_102, li_103, li_104, li_105, li_106, li_107, li_108, li_109, li_110, li_111, li_112, li_113, li_114, li_115, li_116, li_117, li_118, li_119, li_120, li_128, li_142, li_255, li_320, li_781, li_852, li_999, li_1000, li_2000, li_3000, li_9999, li_12345, li_65536, li_1000000, li_252645135, li_858993459, li_1103515245, li_1431655765]
    refine so_mono (c_goDay G C hA (by omega) K things stack) ?_
    intro o ho
    refine c_walkFrom_L G C hN m (k + 1) f (fdy E x) _ _ _ _ _ _ _ _ _ _ _ (by omega) (by omega) (by omega) (wa_dy G hA) ?_ ho
    show (dy E x.1).1 70 + (m : Int) < 2147483648
    rw [dy_70]
    omega
theorem c_walkFrom {E : EN} (G : EnG E) {ho cy le : Int32} {hold below inches code : Nat → Int32} (C : EnC E ho cy le hold below inches code) {A : Int → Int} (hA : WA A) {n : Int} (hn0 : 0 ≤ n) (hn1 : n < 4000) (hn : A 70 + n < 2147483648)
    {now : Int32} {snow path debt : Nat → Int32} (S : StC A now snow path debt) (o0 s0 t0 d0 n0 : Int32) (sn0 p0 de0 b0 things stack : Nat → Int32) :
    So (fX9_walkFrom o0 s0 t0 d0 n0 sn0 p0 de0 b0 cy ho le inches hold below things stack code now snow path debt (iI n))
      (fun o => Wk (fdys E n.toNat (fw0 A)) o.1 o.2.1 o.2.2.1 o.2.2.2.1 o.2.2.2.2.1 o.2.2.2.2.2.1 o.2.2.2.2.2.2.1 o.2.2.2.2.2.2.2.1 o.2.2.2.2.2.2.2.2.1) := by
  unfold fX9_walkFrom
  simp only [so_bind, li_0]
  refine so_mono (c_beginAt S o0 s0 t0 d0 n0 sn0 p0 de0 b0) ?_
  intro o ho
  refine so_mono (c_walkFrom_L G C (N := n) (by omega) n.toNat 0 FU (fw0 A) _ _ _ _ _ _ _ _ _ things stack (by omega) (by omega) (show _ < 4000 by omega) hA (by show A 70 + _ < _; omega) ho) ?_
  intro p hp
  rw [so_some]
  exact hp
/-! the model's -/
theorem m_beginCount_L : ∀ (m : Nat) (k : Int) (f : Nat) (a : Nat → Int32) (A : Int → Int), 0 ≤ k → k + m = 7 → m < f → Arr 7 a A →
    So (fX12_beginCount_L17 f (iI k) a) (fun o => Arr 7 o (fun i => if k ≤ i then 0 else A i))
  | 0, k, f + 1, a, A, h0, hk, hf, ha => by
    rw [fX12_beginCount_L17]
    simp (disch := omega) only [gd_t, so_some, so_bind, so_gd, so_none, Option.bind_some, iI_add, iI_sub, iI_mul, iI_neg, iI_clamp, iI_nat, vin_i, iI_le, iI_lt, iI_eq, mn_i, mx_i, if_true, if_false, if_pos, if_neg, li_0, li_1, li_2, li_3, li_4, li_5, li_6, li_7, li_8, li_9, li_10, li_11, li_12, li_14, li_15, li_16, li_20, li_21, li_24, li_28, li_30, li_31, li_40, li_41, li_42, li_43, li_44, li_45, li_47, li_48, li_49, li_57, li_59, li_60, li_61, li_62, li_63, li_70, li_71, li_76, li_80, li_96, li_97, li_98, li_99, li_100, li_101, li_102, li_103, li_104, li_105, li_106, li_107, li_108, li_109, li_110, li_111, li_112, li_113, li_114, li_115, li_116, li_117, li_118, li_119, li_120, li_128, li_142, li_255, li_320, li_781, li_852, li_999, li_1000, li_2000, li_3000, li_9999, li_12345, li_65536, li_1000000, li_252645135, li_858993459, li_1103515245, li_1431655765]
    exact ha.congr (fun x h0 h1 => by first | rw [if_neg (by omega)] | rfl)
  | m + 1, k, f + 1, a, A, h0, hk, hf, ha => by
    rw [fX12_beginCount_L17]
    simp (disch := omega) only [gd_t, so_some, so_bind, so_gd, so_none, Option.bind_some, iI_add, iI_sub, iI_mul, iI_neg, iI_clamp, iI_nat, vin_i, iI_le, iI_lt, iI_eq, mn_i, mx_i, if_true, if_false, if_pos, if_neg, li_0, li_1, li_2, li_3, li_4, li_5, li_6, li_7, li_8, li_9, li_10, li_11, li_12, li_14, li_15, li_16, li_20, li_21, li_24, li_28, li_30, li_31, li_40, li_41, li_42, li_43, li_44, li_45, li_47, li_48, li_49, li_57, li_59, li_60, li_61, li_62, li_63, li_70, li_71, li_76, li_80, li_96, li_97, li_98, li_99, li_100, li_101, li_102, li_103, li_104, li_105, li_106, li_107, li_108, li_109, li_110, li_111, li_112, li_113, li_114, li_115, li_116, li_117, li_118, li_119, li_120, li_128, li_142, li_255, li_320, li_781, li_852, li_999, li_1000, li_2000, li_3000, li_9999, li_12345, li_65536, li_1000000, li_252645135, li_858993459, li_1103515245, li_1431655765]
    refine so_mono (m_beginCount_L m (k + 1) f _ _ (by omega) (by omega) (by omega) (ha.up 0 h0)) ?_
    intro o ho
    refine ho.congr (fun x h0 h1 => ?_)
    by_cases hx : x = k
    · subst hx
      rw [if_neg (by omega), if_pos (by omega), upI_s]
    · by_cases h2 : k + 1 ≤ x
      · rw [if_pos h2, if_pos (by omega)]
      · rw [if_neg h2, if_neg (by omega), upI_o A hx]
theorem arr_any (n : Int) (a : Nat → Int32) : Arr n a (fun x => (a x.toNat).toInt) := fun x _ _ => (Int32.ofInt_toInt _).symm
theorem m_beginCount (s0 o0 i0 : Int32) (b0 : Nat → Int32) : So (fX12_beginCount s0 o0 i0 b0) (fun o => o.1 = iI 0 ∧ o.2.1 = iI 0 ∧ o.2.2.1 = 0 ∧ Arr 7 o.2.2.2 (fun _ => 0)) := by
  unfold fX12_beginCount
  rw [so_bind, li_0]
  refine so_mono (m_beginCount_L 7 0 FU b0 _ (by omega) (by omega) (show _ < 4000 by omega) (arr_any 7 b0)) ?_
  intro o ho
  rw [so_some]
  exact ⟨rfl, rfl, rfl, ho.congr (fun x h0 h1 => if_pos h0)⟩
theorem m_lay_L {n : Nat} {a : Nat → Int32} {A : Int → Int} (ha : Arr 71 a A) {p : Int} (hp : 0 ≤ p) (hpn : p + 71 ≤ n) (hn : n < 4000) : ∀ (m : Nat) (k : Int) (f : Nat) (b : Nat → Int32) (B : Int → Int), 0 ≤ k → k + m = 71 → m < f → Arr n b B →
    So (fX12_lay_L2 71 n a (iI p) f (iI k) b) (fun o => Arr n o (fun i => if p + k ≤ i ∧ i < p + 71 then A (i - p) else B i))
  | 0, k, f + 1, b, B, h0, hk, hf, hb => by
    rw [fX12_lay_L2]
    simp (disch := omega) only [gd_t, so_some, so_bind, so_gd, so_none, Option.bind_some, iI_add, iI_sub, iI_mul, iI_neg, iI_clamp, iI_nat, vin_i, iI_le, iI_lt, iI_eq, mn_i, mx_i, if_true, if_false, if_pos, if_neg, li_0, li_1, li_2, li_3, li_4, li_5, li_6, li_7, li_8, li_9, li_10, li_11, li_12, li_14, li_15, li_16, li_20, li_21, li_24, li_28, li_30, li_31, li_40, li_41, li_42, li_43, li_44, li_45, li_47, li_48, li_49, li_57, li_59, li_60, li_61, li_62, li_63, li_70, li_71, li_76, li_80, li_96, li_97, li_98, li_99, li_100, li_101, li_102, li_103, li_104, li_105, li_106, li_107, li_108, li_109, li_110, li_111, li_112, li_113, li_114, li_115, li_116, li_117, li_118, li_119, li_120, li_128, li_142, li_255, li_320, li_781, li_852, li_999, li_1000, li_2000, li_3000, li_9999, li_12345, li_65536, li_1000000, li_252645135, li_858993459, li_1103515245, li_1431655765]
    exact hb.congr (fun x h0 h1 => by first | rw [if_neg (by omega)] | rfl)
  | m + 1, k, f + 1, b, B, h0, hk, hf, hb => by
    rw [fX12_lay_L2]
    simp (disch := omega) only [gd_t, so_some, so_bind, so_gd, so_none, Option.bind_some, iI_add, iI_sub, iI_mul, iI_neg, iI_clamp, iI_nat, vin_i, iI_le, iI_lt, iI_eq, mn_i, mx_i, if_true, if_false, if_pos, if_neg, li_0, li_1, li_2, li_3, li_4, li_5, li_6, li_7, li_8, li_9, li_10, li_11, li_12, li_14, li_15, li_16, li_20, li_21, li_24, li_28, li_30, li_31, li_40, li_41, li_42, li_43, li_44, li_45, li_47, li_48, li_49, li_57, li_59, li_60, li_61, li_62, li_63, li_70, li_71, li_76, li_80, li_96, li_97, li_98, li_99, li_100, li_101, li_102, li_103, li_104, li_105, li_106, li_107, li_108, li_109, li_110, li_111, li_112, li_113, li_114, li_115, li_116, li_117, li_118, li_119, li_120, li_128, li_142, li_255, li_320, li_781, li_852, li_999, li_1000, li_2000, li_3000, li_9999, li_12345, li_65536, li_1000000, li_252645135, li_858993459, li_1103515245, li_1431655765, ha.at]
    refine so_mono (m_lay_L ha hp hpn hn m (k + 1) f _ _ (by omega) (by omega) (by omega) (hb.up _ (by omega))) ?_
    intro o ho
    refine ho.congr (fun x h0 h1 => ?_)
    by_cases hx : x = p + k
    · subst hx
      rw [if_neg (by omega), if_pos (by omega), upI_s]
      congr 1
      omega
    · by_cases h2 : p + (k + 1) ≤ x ∧ x < p + 71
      · rw [if_pos h2, if_pos (by omega)]
      · rw [if_neg h2, if_neg (by omega), upI_o _ hx]
theorem m_lay {n : Nat} {a b : Nat → Int32} {A B : Int → Int} (ha : Arr 71 a A) (hb : Arr n b B) {p : Int} (hp : 0 ≤ p) (hpn : p + 71 ≤ n) (hn : n < 4000) :
    So (fX12_lay 71 n a b (iI p)) (fun o => Arr n o (fun i => if p ≤ i ∧ i < p + 71 then A (i - p) else B i)) := by
  unfold fX12_lay
  rw [so_bind, li_0]
  refine so_mono (m_lay_L ha hp hpn hn 71 0 FU b B (by omega) (by omega) (show _ < 4000 by omega) hb) ?_
  intro o ho
  rw [so_some]
  exact ho.congr (fun x h0 h1 => by rw [Int.add_zero])
/-- .. from the beginning on -/
theorem m_lay0 {a b : Nat → Int32} {A : Int → Int} (ha : Arr 71 a A) : So (fX12_lay 71 71 a b 0) (fun o => Arr 71 o A) := by
  refine so_mono (m_lay (n := 71) ha (arr_any 71 b) (p := 0) (by omega) (by omega) (by omega)) ?_
  intro o ho
  refine ho.congr (fun x h0 h1 => ?_)
  rw [if_pos (by omega), Int.sub_zero]
theorem m_goOn_L {E : EN} (G : EnG E) {ho many size : Int32} {hold below weather rule : Nat → Int32} (M : EnM E ho many size hold below weather rule) {N : Int} (hN : N < 2147483648) : ∀ (m : Nat) (k : Int) (f : Nat) (x : MW)
    (rr : Nat) (len top at' wrong asked i1 i2 i3 i4 i5 i6 sm on si : Int32) (owedBy a : Nat → Int32), 0 ≤ k → k + m = N → m < f → WA x.1.1 → x.1.1 70 + m < 2147483648 → Mk x sm on si owedBy a →
    So (fX12_goOn_L18 ho many size weather hold below rule (iI N) f (iI k) rr len top at' wrong asked i1 i2 i3 i4 i5 i6 sm on si owedBy a)
      (fun o => Mk (mdys E m x) o.2.2.2.2.2.2.2.2.2.2.2.2.1 o.2.2.2.2.2.2.2.2.2.2.2.2.2.1 o.2.2.2.2.2.2.2.2.2.2.2.2.2.2.1 o.2.2.2.2.2.2.2.2.2.2.2.2.2.2.2.1 o.2.2.2.2.2.2.2.2.2.2.2.2.2.2.2.2)
  | 0, k, f + 1, x, rr, len, top, at', wrong, asked, i1, i2, i3, i4, i5, i6, sm, on, si, owedBy, a, h0, hk, hf, hA, hn, K => by
    rw [fX12_goOn_L18]
    simp (disch := omega) only [gd_t, so_some, so_bind, so_gd, so_none, Option.bind_some, iI_add, iI_sub, iI_mul, iI_neg, iI_clamp, iI_nat, vin_i, iI_le, iI_lt, iI_eq, mn_i, mx_i, if_true, if_false, if_pos, if_neg, li_0, li_1, li_2, li_3, li_4, li_5, li_6, li_7, li_8, li_9, li_10, li_11, li_12, li_14, li_15, li_16, li_20, li_21, li_24, li_28, li_30, li_31, li_40, li_41, li_42, li_43, li_44, li_45, li_47, li_48, li_49, li_57, li_59, li_60, li_61, li_62, li_63, li_70, li_71, li_76, li_80, li_96, li_97, li_98, li_99, li_100, li_101, li_102, li_103, li_104, li_105, li_106, li_107, li_108, li_109, li_110, li_111, li_112, li_113, li_114, li_115, li_116, li_117, li_118, li_119, li_120, li_128, li_142, li_255, li_320, li_781, li_852, li_999, li_1000, li_2000, li_3000, li_9999, li_12345, li_65536, li_1000000, li_252645135, li_858993459, li_1103515245, li_1431655765]
    exact K
  | m + 1, k, f + 1, x, rr, len, top, at', wrong, asked, i1, i2, i3, i4, i5, i6, sm, on, si, owedBy, a, h0, hk, hf, hA, hn, K => by
    rw [fX12_goOn_L18]
    simp (disch := omega) only [gd_t, so_some, so_bind, so_gd, so_none, Option.bind_some, iI_add, iI_sub, iI_mul, iI_neg, iI_clamp, iI_nat, vin_i, iI_le, iI_lt, iI_eq, mn_i, mx_i, if_true, if_false, if_pos, if_neg, li_0, li_1, li_2, li_3, li_4, li_5, li_6, li_7, li_8, li_9, li_10, li_11, li_12, li_14, li_15, li_16, li_20, li_21, li_24, li_28, li_30, li_31, li_40, li_41, li_42, li_43, li_44, li_45, li_47, li_48, li_49, li_57, li_59, li_60, li_61, li_62, li_63, li_70, li_71, li_76, li_80, li_96, li_97, li_98, li_99, li_100, li_101, li_102, li_103, li_104, li_105, li_106, li_107, li_108, li_109, li_110, li_111, li_112, li_113, li_114, li_115, li_116, li_117, li_118, li_119, li_120, li_128, li_142, li_255, li_320, li_781, li_852, li_999, li_1000, li_2000, li_3000, li_9999, li_12345, li_65536, li_1000000, li_252645135, li_858993459, li_1103515245, li_1431655765]
    refine so_mono (m_goDay G M hA (by omega) K rr len top at' wrong asked i1 i2 i3 i4 i5 i6) ?_
    intro o ho
    refine m_goOn_L G M hN m (k + 1) f (mdy E x) _ _ _ _ _ _ _ _ _ _ _ _ _ _ _ _ _ (by omega) (by omega) (by omega) (wa_dy G hA) ?_ ho
    show (dy E x.1).1 70 + (m : Int) < 2147483648
    rw [dy_70]
    omega
theorem m_goOn {E : EN} (G : EnG E) {ho many size : Int32} {hold below weather rule : Nat → Int32} (M : EnM E ho many size hold below weather rule) {A : Int → Int} (hA : WA A) {n : Int} (hn0 : 0 ≤ n) (hn1 : n < 4000) (hn : A 70 + n < 2147483648)
    {a : Nat → Int32} (ha : Arr 71 a A) (rr : Nat) (len top at' wrong asked i1 i2 i3 i4 i5 i6 sm on si : Int32) (owedBy th : Nat → Int32) :
    So (fX12_goOn ho many rr len top at' wrong size asked i1 i2 i3 i4 i5 i6 sm on si owedBy a th weather hold below rule (iI n))
      (fun o => Mk (mdys E n.toNat (mw0 A)) o.2.2.2.2.2.2.2.2.2.2.2.2.1 o.2.2.2.2.2.2.2.2.2.2.2.2.2.1 o.2.2.2.2.2.2.2.2.2.2.2.2.2.2.1 o.2.2.2.2.2.2.2.2.2.2.2.2.2.2.2.1 o.2.2.2.2.2.2.2.2.2.2.2.2.2.2.2.2) := by
  unfold fX12_goOn
  simp only [so_bind]
  refine so_mono (m_beginCount sm on si owedBy) ?_
  rintro o ⟨p1, p2, p3, p4⟩
  refine so_mono (m_lay0 (b := th) ha) ?_
  intro b hb
  rw [li_0]
  refine so_mono (m_goOn_L G M (N := n) (by omega) n.toNat 0 FU (mw0 A) rr len top at' wrong asked i1 i2 i3 i4 i5 i6 _ _ _ _ _ (by omega) (by omega) (show _ < 4000 by omega) hA (by show A 70 + _ < _; omega) ⟨p1, p2, p3, p4, hb⟩) ?_
  intro p hp
  rw [so_some]
  exact hp
