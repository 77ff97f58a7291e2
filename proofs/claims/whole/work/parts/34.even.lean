/-! even() -/
abbrev ET : Type := Int × (Int → Int) × (Int → Int)
def evX (N : Int → Int) (a b : Int) : Int := min 9999 (min (-(N a)) (N b))
def evS (t : ET) (a b : Int) : ET :=
  if evX t.2.2 a b ≤ 0 then t else (t.1 + 1, upI t.2.1 (21 + (a * 7 + b)) (evX t.2.2 a b), upI (upI t.2.2 a (t.2.2 a + evX t.2.2 a b)) b (t.2.2 b - evX t.2.2 a b))
def evL (a : Int) : Nat → Int → ET → ET
  | 0, _, t => t
  | m + 1, b, t => evL a m (b + 1) (evS t a b)
def evA : Nat → Int → ET → ET
  | 0, _, t => t
  | m + 1, a, t => evA m (a + 1) (evL a 7 0 t)
def EvI (h n : Int) (B : Int → Int) (c : Int) (t : ET) : Prop :=
  (0 ≤ t.1 ∧ t.1 ≤ c) ∧ SG h n t.2.1 ∧ (∀ i, i < 21 ∨ 70 ≤ i → t.2.1 i = B i) ∧ ∀ j, 0 ≤ j → j < 7 → (-69993 ≤ t.2.2 j ∧ t.2.2 j ≤ 69993) ∧ (h ≤ j → t.2.2 j = 0)
theorem up_comm (A : Int → Int) {a b : Int} (h : a ≠ b) (v w : Int) : upI (upI A a v) b w = upI (upI A b w) a v := by
  funext i
  by_cases q : i = a
  · rw [q, upI_s, upI_o _ h, upI_s]
  · by_cases q2 : i = b
    · rw [q2, upI_s, upI_o _ (fun e => h e.symm), upI_s]
    · rw [upI_o _ q2, upI_o _ q, upI_o _ q, upI_o _ q2]
theorem evI_S {h n : Int} (h7 : h ≤ 7) {B : Int → Int} {c : Int} {t : ET} (I : EvI h n B c t) {a b : Int} (a0 : 0 ≤ a) (a1 : a < 7) (b0 : 0 ≤ b) (b1 : b < 7) : EvI h n B (c + 1) (evS t a b) := by
  obtain ⟨i1, i2, i3, i4⟩ := I
  unfold evS
  by_cases q : evX t.2.2 a b ≤ 0
  · rw [if_pos q]
    exact ⟨⟨i1.1, by omega⟩, i2, i3, i4⟩
  · rw [if_neg q]
    obtain ⟨X, hX⟩ : ∃ X, X = evX t.2.2 a b := ⟨_, rfl⟩
    rw [← hX] at q ⊢
    have hX2 : X = min 9999 (min (-(t.2.2 a)) (t.2.2 b)) := hX
    have ja := i4 a a0 a1
    have jb := i4 b b0 b1
    have ah : a < h := by
      by_cases w : h ≤ a
      · have := ja.2 w; omega
      · omega
    have bh : b < h := by
      by_cases w : h ≤ b
      · have := jb.2 w; omega
      · omega
    have ab : a ≠ b := by
      intro w
      subst w
      omega
    refine ⟨⟨by show 0 ≤ t.1 + 1; omega, by show t.1 + 1 ≤ c + 1; omega⟩, ⟨i2.1.up (fun _ _ => by omega) (fun _ _ => by omega) (fun _ => by omega), i2.2.1.up (by omega) (by omega) (fun _ _ => Or.inr ⟨a, b, by omega⟩) h7, ?_⟩, fun i hi => ?_, fun j j0 j1 => ?_⟩
    · show upI _ _ _ 70 ≤ _
      rw [upI_o _ (by omega)]
      exact i2.2.2
    · show upI _ _ _ i = _
      rw [upI_o _ (by omega)]
      exact i3 i hi
    · show (-69993 ≤ upI _ _ _ j ∧ upI _ _ _ j ≤ 69993) ∧ (h ≤ j → upI _ _ _ j = 0)
      by_cases q1 : j = b
      · rw [q1, upI_s]; omega
      · rw [upI_o _ q1]
        by_cases q2 : j = a
        · rw [q2, upI_s]; omega
        · rw [upI_o _ q2]
          exact i4 j j0 j1
theorem evI_L {h n : Int} (h7 : h ≤ 7) {B : Int → Int} {a : Int} (a0 : 0 ≤ a) (a1 : a < 7) : ∀ (m : Nat) (b c : Int) (t : ET), 0 ≤ b → b + m = 7 → EvI h n B c t → EvI h n B (c + m) (evL a m b t)
  | 0, b, c, t, b0, hb, I => by rw [evL, show c + (0 : Nat) = c by omega]; exact I
  | m + 1, b, c, t, b0, hb, I => by
    have := evI_L h7 a0 a1 m (b + 1) (c + 1) (evS t a b) (by omega) (by omega) (evI_S h7 I a0 a1 b0 (by omega))
    rw [evL, show c + ((m + 1 : Nat) : Int) = c + 1 + (m : Nat) by omega]
    exact this
theorem evI_A {h n : Int} (h7 : h ≤ 7) {B : Int → Int} : ∀ (m : Nat) (a c : Int) (t : ET), 0 ≤ a → a + m = 7 → EvI h n B c t → EvI h n B (c + 7 * m) (evA m a t)
  | 0, a, c, t, a0, ha, I => by rw [evA, show c + 7 * ((0 : Nat) : Int) = c by omega]; exact I
  | m + 1, a, c, t, a0, ha, I => by
    have := evI_A h7 m (a + 1) (c + 7) (evL a 7 0 t) (by omega) (by omega) (evI_L h7 a0 (by omega) 7 0 c t (by omega) (by omega) I)
    rw [evA, show c + 7 * ((m + 1 : Nat) : Int) = c + 7 + 7 * (m : Nat) by omega]
    exact this
theorem evL_id {a : Int} {t : ET} : ∀ (m : Nat) (b : Int), (∀ j, b ≤ j → j < b + m → evX t.2.2 a j ≤ 0) → evL a m b t = t
  | 0, b, _ => rfl
  | m + 1, b, H => by
    rw [evL, evS, if_pos (H b (by omega) (by omega))]
    exact evL_id m (b + 1) (fun j j0 j1 => H j (by omega) (by omega))
theorem evA_id {h n : Int} {B : Int → Int} {c : Int} {t : ET} (I : EvI h n B c t) : ∀ (m : Nat) (a : Int), 0 ≤ a → h ≤ a → a + m = 7 → evA m a t = t
  | 0, a, _, _, _ => rfl
  | m + 1, a, a0, ha, hm => by
    have x := (I.2.2.2 a a0 (by omega)).2 ha
    rw [evA, evL_id 7 0 (fun j _ _ => by unfold evX; omega)]
    exact evA_id I m (a + 1) (by omega) (by omega) (by omega)
theorem c_ev_L21 {h n : Int} (h7 : h ≤ 7) {B : Int → Int} {a : Int} (a0 : 0 ≤ a) (a1 : a < 7) : ∀ (m : Nat) (b c : Int) (f : Nat) (t : ET) (d p : Nat → Int32), 0 ≤ b → b + m = 7 → m < f → EvI h n B c t → Arr 49 d (fun i => t.2.1 (21 + i)) → Arr 7 p t.2.2 →
    So (fX5_owesAnew_L21 7 (iI a) f (iI t.1) (iI b) d p) (fun o => o.1 = iI (evL a m b t).1 ∧ Arr 49 o.2.1 (fun i => (evL a m b t).2.1 (21 + i)) ∧ Arr 7 o.2.2 (evL a m b t).2.2)
  | 0, b, c, f + 1, t, d, p, b0, hb, hf, I, hd, hp => by
    rw [fX5_owesAnew_L21]
    simp (disch := omega) only [gd_t, so_some, so_bind, so_gd, so_none, Option.bind_some, iI_add, iI_sub, iI_mul, iI_neg, iI_clamp, iI_nat, vin_i, iI_le, iI_lt, iI_eq, mn_i, mx_i, if_true, if_false, if_pos, if_neg, li_0, li_1, li_2, li_3, li_4, li_5, li_6, li_7, li_8, li_9, li_10, li_11, li_12, li_14, li_15, li_16, li_20, li_21, li_24, li_28, li_30, li_31, li_40, li_41, li_42, li_43, li_44, li_45, li_47, li_48, li_49, li_57, li_59, li_60, li_61, li_62, li_63, li_70, li_71, li_76, li_80, li_96, li_97, li_98, li_99, li_100, li_101, li_102, li_103, li_104, li_105, li_106, li_107, li_108, li_109, li_110, li_111, li_112, li_113, li_114, li_115, li_116, li_117, li_118, li_119, li_120, li_128, li_142, li_255, li_320, li_781, li_852, li_999, li_1000, li_2000, li_3000, li_9999, li_12345, li_65536, li_1000000, li_252645135, li_858993459, li_1103515245, li_1431655765]
    exact ⟨rfl, hd, hp⟩
  | m + 1, b, c, f + 1, t, d, p, b0, hb, hf, I, hd, hp => by
    have ja := I.2.2.2 a a0 a1
    have jb := I.2.2.2 b b0 (by omega)
    obtain ⟨X, hX⟩ : ∃ X, min 9999 (min (-(t.2.2 a)) (t.2.2 b)) = X := ⟨_, rfl⟩
    have hX2 : evX t.2.2 a b = X := hX
    have ih := c_ev_L21 h7 (B := B) (n := n) a0 a1 m (b + 1) (c + 1) f (evS t a b)
    have I2 := evI_S h7 I a0 a1 b0 (by omega)
    rw [fX5_owesAnew_L21, evL]
    by_cases q : X ≤ 0
    · have e : evS t a b = t := if_pos (by omega)
      simp (disch := omega) only [gd_t, so_some, so_bind, so_gd, so_none, Option.bind_some, iI_add, iI_sub, iI_mul, iI_neg, iI_clamp, iI_nat, vin_i, iI_le, iI_lt, iI_eq, mn_i, mx_i, if_true, if_false, if_pos, if_neg, li_0, li_1, li_2, li_3, li_4, li_5, li_6, li_7, li_8, li_9, li_10, li_11, li_12, li_14, li_15, li_16, li_20, li_21, li_24, li_28, li_30, li_31, li_40, li_41, li_42, li_43, li_44, li_45, li_47, li_48, li_49, li_57, li_59, li_60, li_61, li_62, li_63, li_70, li_71, li_76, li_80, li_96, li_97, li_98, li_99, li_100, li_101, li_102, li_103, li_104, li_105, li_106, li_107, li_108, li_109, li_110, li_111, li_112, li_113, li_114, li_115, li_116, li_117, li_118, li_119, li_120, li_128, li_142, li_255, li_320, li_781, li_852, li_999, li_1000, li_2000, li_3000, li_9999, li_12345, li_65536, li_1000000, li_252645135, li_858993459, li_1103515245, li_1431655765, hp.at, hX]
      rw [e] at ih I2 ⊢
      exact ih d p (by omega) (by omega) (by omega) I2 hd hp
    · have e : evS t a b = (t.1 + 1, upI t.2.1 (21 + (a * 7 + b)) X, upI (upI t.2.2 a (t.2.2 a + X)) b (t.2.2 b - X)) := by
        rw [evS, if_neg (by omega), hX2]
      have ab : a ≠ b := by
        intro w
        subst w
        omega
      have u1 := hp.up (k := a) (t.2.2 a + X) a0
      have o1 : upI t.2.2 a (t.2.2 a + X) b = t.2.2 b := upI_o _ (fun w => ab w.symm)
      have u2 := u1.up (k := b) (t.2.2 b - X) b0
      have u3 := hd.up (k := a * 7 + b) X (by omega)
      simp (disch := omega) only [gd_t, so_some, so_bind, so_gd, so_none, Option.bind_some, iI_add, iI_sub, iI_mul, iI_neg, iI_clamp, iI_nat, vin_i, iI_le, iI_lt, iI_eq, mn_i, mx_i, if_true, if_false, if_pos, if_neg, li_0, li_1, li_2, li_3, li_4, li_5, li_6, li_7, li_8, li_9, li_10, li_11, li_12, li_14, li_15, li_16, li_20, li_21, li_24, li_28, li_30, li_31, li_40, li_41, li_42, li_43, li_44, li_45, li_47, li_48, li_49, li_57, li_59, li_60, li_61, li_62, li_63, li_70, li_71, li_76, li_80, li_96, li_97, li_98, li_99, li_100, li_101, li_102, li_103, li_104, li_105, li_106, li_107, li_108, li_109, li_110, li_111, li_112, li_113, li_114, li_115, li_116, li_117, li_118, li_119, li_120, li_128, li_142, li_255, li_320, li_781, li_852, li_999, li_1000, li_2000, li_3000, li_9999, li_12345, li_65536, li_1000000, li_252645135, li_858993459, li_1103515245, li_1431655765, hp.at, hX, u1.at, o1]
      rw [e] at ih I2 ⊢
      refine ih _ _ (by omega) (by omega) (by omega) I2 (u3.congr (fun x x0 x1 => ?_)) u2
      by_cases hx : x = a * 7 + b
      · show _ = upI _ _ _ _
        rw [hx, upI_s, upI_s]
      · show _ = upI _ _ _ _
        rw [upI_o _ hx, upI_o _ (by omega)]
theorem c_ev_L12 {h n : Int} (h7 : h ≤ 7) {B : Int → Int} : ∀ (m : Nat) (a c : Int) (f : Nat) (t : ET) (d p : Nat → Int32), 0 ≤ a → a + m = 7 → m < f → EvI h n B c t → Arr 49 d (fun i => t.2.1 (21 + i)) → Arr 7 p t.2.2 →
    So (fX5_owesAnew_L12 7 f (iI t.1) (iI a) d p) (fun o => o.1 = iI (evA m a t).1 ∧ Arr 49 o.2.1 (fun i => (evA m a t).2.1 (21 + i)) ∧ Arr 7 o.2.2 (evA m a t).2.2)
  | 0, a, c, f + 1, t, d, p, b0, hb, hf, I, hd, hp => by
    rw [fX5_owesAnew_L12]
    simp (disch := omega) only [gd_t, so_some, so_bind, so_gd, so_none, Option.bind_some, iI_add, iI_sub, iI_mul, iI_neg, iI_clamp, iI_nat, vin_i, iI_le, iI_lt, iI_eq, mn_i, mx_i, if_true, if_false, if_pos, if_neg, li_0, li_1, li_2, li_3, li_4, li_5, li_6, li_7, li_8, li_9, li_10, li_11, li_12, li_14, li_15, li_16, li_20, li_21, li_24, li_28, li_30, li_31, li_40, li_41, li_42, li_43, li_44, li_45, li_47, li_48, li_49, li_57, li_59, li_60, li_61, li_62, li_63, li_70, li_71, li_76, li_80, li_96, li_97, li_98, li_99, li_100, li_101, li_102, li_103, li_104, li_105, li_106, li_107, li_108, li_109, li_110, li_111, li_112, li_113, li_114, li_115, li_116, li_117, li_118, li_119, li_120, li_128, li_142, li_255, li_320, li_781, li_852, li_999, li_1000, li_2000, li_3000, li_9999, li_12345, li_65536, li_1000000, li_252645135, li_858993459, li_1103515245, li_1431655765]
    exact ⟨rfl, hd, hp⟩
  | m + 1, a, c, f + 1, t, d, p, b0, hb, hf, I, hd, hp => by
    rw [fX5_owesAnew_L12, evA]
    simp (disch := omega) only [gd_t, so_some, so_bind, so_gd, so_none, Option.bind_some, iI_add, iI_sub, iI_mul, iI_neg, iI_clamp, iI_nat, vin_i, iI_le, iI_lt, iI_eq, mn_i, mx_i, if_true, if_false, if_pos, if_neg, li_0, li_1, li_2, li_3, li_4, li_5, li_6, li_7, li_8, li_9, li_10, li_11, li_12, li_14, li_15, li_16, li_20, li_21, li_24, li_28, li_30, li_31, li_40, li_41, li_42, li_43, li_44, li_45, li_47, li_48, li_49, li_57, li_59, li_60, li_61, li_62, li_63, li_70, li_71, li_76, li_80, li_96, li_97, li_98, li_99, li_100, li_101, li_102, li_103, li_104, li_105, li_106, li_107, li_108, li_109, li_110, li_111, li_112, li_113, li_114, li_115, li_116, li_117, li_118, li_119, li_120, li_128, li_142, li_255, li_320, li_781, li_852, li_999, li_1000, li_2000, li_3000, li_9999, li_12345, li_65536, li_1000000, li_252645135, li_858993459, li_1103515245, li_1431655765]
    refine so_mono (c_ev_L21 h7 b0 (by omega) 7 0 c FU t d p (by omega) (by omega) (show 7 < 4000 by omega) I hd hp) ?_
    rintro o ⟨o1, o2, o3⟩
    rw [o1]
    exact c_ev_L12 h7 m (a + 1) (c + 7) f _ _ _ (by omega) (by omega) (by omega) (evI_L h7 b0 (by omega) 7 0 c t (by omega) (by omega) I) o2 o3
theorem m_ev_L82 {h n : Int} (h7 : h ≤ 7) {B : Int → Int} {a : Int} (a0 : 0 ≤ a) (a1 : a < h) : ∀ (m : Nat) (b c : Int) (f : Nat) (t : ET) (d p : Nat → Int32), 0 ≤ b → b ≤ h → b + m = 7 → m < f → EvI h n B c t → Arr 71 d t.2.1 → Arr h p t.2.2 →
    So (fX12_even_L82 (iI h) (iI a) f (iI t.1) (iI b) d p) (fun o => o.1 = iI (evL a m b t).1 ∧ Arr 71 o.2.1 (evL a m b t).2.1 ∧ Arr h o.2.2 (evL a m b t).2.2) := by
  intro m
  induction m with
  | zero =>
    intro b c f t d p b0 bh hb hf I hd hp
    obtain ⟨f, rfl⟩ : ∃ g, f = g + 1 := ⟨f - 1, by omega⟩
    rw [fX12_even_L82]
    simp (disch := omega) only [gd_t, so_some, so_bind, so_gd, so_none, Option.bind_some, iI_add, iI_sub, iI_mul, iI_neg, iI_clamp, iI_nat, vin_i, iI_le, iI_lt, iI_eq, mn_i, mx_i, if_true, if_false, if_pos, if_neg, li_0, li_1, li_2, li_3, li_4, li_5, li_6, li_7, li_8, li_9, li_10, li_11, li_12, li_14, li_15, li_16, li_20, li_21, li_24, li_28, li_30, li_31, li_40, li_41, li_42, li_43, li_44, li_45, li_47, li_48, li_49, li_57, li_59, li_60, li_61, li_62, li_63, li_70, li_71, li_76, li_80, li_96, li_97, li_98, li_99, li_100, li_101, li_102, li_103, li_104, li_105, li_106, li_107, li_108, li_109, li_110, li_111, li_112, li_113, li_114, li_115, li_116, li_117, li_118, li_119, li_120, li_128, li_142, li_255, li_320, li_781, li_852, li_999, li_1000, li_2000, li_3000, li_9999, li_12345, li_65536, li_1000000, li_252645135, li_858993459, li_1103515245, li_1431655765]
    exact ⟨rfl, hd, hp⟩
  | succ m ih =>
    intro b c f t d p b0 bh hb hf I hd hp
    obtain ⟨f, rfl⟩ : ∃ g, f = g + 1 := ⟨f - 1, by omega⟩
    have ja := I.2.2.2 a a0 (by omega)
    by_cases qh : b = h
    · rw [fX12_even_L82, evL_id (m + 1) b (fun j j0 j1 => by have := (I.2.2.2 j (by omega) (by omega)).2 (by omega); unfold evX; omega)]
      simp (disch := omega) only [gd_t, so_some, so_bind, so_gd, so_none, Option.bind_some, iI_add, iI_sub, iI_mul, iI_neg, iI_clamp, iI_nat, vin_i, iI_le, iI_lt, iI_eq, mn_i, mx_i, if_true, if_false, if_pos, if_neg, li_0, li_1, li_2, li_3, li_4, li_5, li_6, li_7, li_8, li_9, li_10, li_11, li_12, li_14, li_15, li_16, li_20, li_21, li_24, li_28, li_30, li_31, li_40, li_41, li_42, li_43, li_44, li_45, li_47, li_48, li_49, li_57, li_59, li_60, li_61, li_62, li_63, li_70, li_71, li_76, li_80, li_96, li_97, li_98, li_99, li_100, li_101, li_102, li_103, li_104, li_105, li_106, li_107, li_108, li_109, li_110, li_111, li_112, li_113, li_114, li_115, li_116, li_117, li_118, li_119, li_120, li_128, li_142, li_255, li_320, li_781, li_852, li_999, li_1000, li_2000, li_3000, li_9999, li_12345, li_65536, li_1000000, li_252645135, li_858993459, li_1103515245, li_1431655765]
      exact ⟨trivial, hd, hp⟩
    by_cases qa : 0 ≤ t.2.2 a
    · rw [fX12_even_L82, evL_id (m + 1) b (fun j j0 j1 => by unfold evX; omega)]
      simp (disch := omega) only [gd_t, so_some, so_bind, so_gd, so_none, Option.bind_some, iI_add, iI_sub, iI_mul, iI_neg, iI_clamp, iI_nat, vin_i, iI_le, iI_lt, iI_eq, mn_i, mx_i, if_true, if_false, if_pos, if_neg, li_0, li_1, li_2, li_3, li_4, li_5, li_6, li_7, li_8, li_9, li_10, li_11, li_12, li_14, li_15, li_16, li_20, li_21, li_24, li_28, li_30, li_31, li_40, li_41, li_42, li_43, li_44, li_45, li_47, li_48, li_49, li_57, li_59, li_60, li_61, li_62, li_63, li_70, li_71, li_76, li_80, li_96, li_97, li_98, li_99, li_100, li_101, li_102, li_103, li_104, li_105, li_106, li_107, li_108, li_109, li_110, li_111, li_112, li_113, li_114, li_115, li_116, li_117, li_118, li_119, li_120, li_128, li_142, li_255, li_320, li_781, li_852, li_999, li_1000, li_2000, li_3000, li_9999, li_12345, li_65536, li_1000000, li_252645135, li_858993459, li_1103515245, li_1431655765, hp.at]
      exact ⟨trivial, hd, hp⟩
    have jb := I.2.2.2 b b0 (by omega)
    obtain ⟨X, hX⟩ : ∃ X, min 9999 (min (t.2.2 b) (-(t.2.2 a))) = X := ⟨_, rfl⟩
    have hX2 : evX t.2.2 a b = X := by rw [evX, Int.min_comm (-(t.2.2 a))]; exact hX
    have ih := ih (b + 1) (c + 1) f (evS t a b)
    have I2 := evI_S h7 I a0 (by omega) b0 (by omega)
    rw [fX12_even_L82, evL]
    by_cases q : t.2.2 b ≤ 0
    · have e : evS t a b = t := if_pos (by omega)
      simp (disch := omega) only [gd_t, so_some, so_bind, so_gd, so_none, Option.bind_some, iI_add, iI_sub, iI_mul, iI_neg, iI_clamp, iI_nat, vin_i, iI_le, iI_lt, iI_eq, mn_i, mx_i, if_true, if_false, if_pos, if_neg, li_0, li_1, li_2, li_3, li_4, li_5, li_6, li_7, li_8, li_9, li_10, li_11, li_12, li_14, li_15, li_16, li_20, li_21, li_24, li_28, li_30, li_31, li_40, li_41, li_42, li_43, li_44, li_45, li_47, li_48, li_49, li_57, li_59, li_60, li_61, li_62, li_63, li_70, li_71, li_76, li_80, li_96, li_97, li_98, li_99, li_100, li_101, li_102, li_103, li_104, li_105, li_106, li_107, li_108, li_109, li_110, li_111, li_112, li_113, li_114, li_115, li_116, li_117, li_118, li_119, li_120, li_128, li_142, li_255, li_320, li_781, li_852, li_999, li_1000, li_2000, li_3000, li_9999, li_12345, li_65536, li_1000000, li_252645135, li_858993459, li_1103515245, li_1431655765, hp.at]
      rw [e] at ih I2 ⊢
      exact ih d p (by omega) (by omega) (by omega) (by omega) I2 hd hp
    · have e : evS t a b = (t.1 + 1, upI t.2.1 (21 + (a * 7 + b)) X, upI (upI t.2.2 a (t.2.2 a + X)) b (t.2.2 b - X)) := by
        rw [evS, if_neg (by omega), hX2]
      have ab : a ≠ b := by
        intro w
        subst w
        omega
      have u1 := hp.up (k := b) (t.2.2 b - X) b0
      have o1 : upI t.2.2 b (t.2.2 b - X) a = t.2.2 a := upI_o _ ab
      have u2 := u1.up (k := a) (t.2.2 a + X) a0
      rw [up_comm _ (fun w => ab w.symm)] at u2
      have u3 := hd.up (k := 21 + (a * 7 + b)) X (by omega)
      have ix : 21 + 7 * a + b = 21 + (a * 7 + b) := by omega
      simp (disch := omega) only [gd_t, so_some, so_bind, so_gd, so_none, Option.bind_some, iI_add, iI_sub, iI_mul, iI_neg, iI_clamp, iI_nat, vin_i, iI_le, iI_lt, iI_eq, mn_i, mx_i, if_true, if_false, if_pos, if_neg, li_0, li_1, li_2, li_3, li_4, li_5, li_6, li_7, li_8, li_9, li_10, li_11, li_12, li_14, li_15, li_16, li_20, li_21, li_24, li_28, li_30, li_31, li_40, li_41, li_42, li_43, li_44, li_45, li_47, li_48, li_49, li_57, li_59, li_60, li_61, li_62, li_63, li_70, li_71, li_76, li_80, li_96, li_97, li_98, li_99, li_100, li_101, li_102, li_103, li_104, li_105, li_106, li_107, li_108, li_109, li_110, li_111, li_112, li_113, li_114, li_115, li_116, li_117, li_118, li_119, li_120, li_128, li_142, li_255, li_320, li_781, li_852, li_999, li_1000, li_2000, li_3000, li_9999, li_12345, li_65536, li_1000000, li_252645135, li_858993459, li_1103515245, li_1431655765, hp.at, hX, u1.at, o1, ix]
      rw [e] at ih I2 ⊢
      exact ih _ _ (by omega) (by omega) (by omega) (by omega) I2 u3 u2
theorem m_ev_L71 {h n : Int} (h7 : h ≤ 7) {B : Int → Int} : ∀ (m : Nat) (a c : Int) (f : Nat) (t : ET) (d p : Nat → Int32), 0 ≤ a → a ≤ h → a + m = 7 → m < f → EvI h n B c t → Arr 71 d t.2.1 → Arr h p t.2.2 →
    So (fX12_even_L71 (iI h) f (iI t.1) (iI a) d p) (fun o => o.1 = iI (evA m a t).1 ∧ Arr 71 o.2.1 (evA m a t).2.1 ∧ Arr h o.2.2 (evA m a t).2.2) := by
  intro m
  induction m with
  | zero =>
    intro a c f t d p a0 ah hb hf I hd hp
    obtain ⟨f, rfl⟩ : ∃ g, f = g + 1 := ⟨f - 1, by omega⟩
    rw [fX12_even_L71]
    simp (disch := omega) only [gd_t, so_some, so_bind, so_gd, so_none, Option.bind_some, iI_add, iI_sub, iI_mul, iI_neg, iI_clamp, iI_nat, vin_i, iI_le, iI_lt, iI_eq, mn_i, mx_i, if_true, if_false, if_pos, if_neg, li_0, li_1, li_2, li_3, li_4, li_5, li_6, li_7, li_8, li_9, li_10, li_11, li_12, li_14, li_15, li_16, li_20, li_21, li_24, li_28, li_30, li_31, li_40, li_41, li_42, li_43, li_44, li_45, li_47, li_48, li_49, li_57, li_59, li_60, li_61, li_62, li_63, li_70, li_71, li_76, li_80, li_96, li_97, li_98, li_99, li_100, li_101, li_102, li_103, li_104, li_105, li_106, li_107, li_108, li_109, li_110, li_111, li_112, li_113, li_114, li_115, li_116, li_117, li_118, li_119, li_120, li_128, li_142, li_255, li_320, li_781, li_852, li_999, li_1000, li_2000, li_3000, li_9999, li_12345, li_65536, li_1000000, li_252645135, li_858993459, li_1103515245, li_1431655765]
    exact ⟨rfl, hd, hp⟩
  | succ m ih =>
    intro a c f t d p a0 ah hb hf I hd hp
    obtain ⟨f, rfl⟩ : ∃ g, f = g + 1 := ⟨f - 1, by omega⟩
    by_cases qh : a = h
    · rw [fX12_even_L71, evA_id I (m + 1) a a0 (by omega) hb]
      simp (disch := omega) only [gd_t, so_some, so_bind, so_gd, so_none, Option.bind_some, iI_add, iI_sub, iI_mul, iI_neg, iI_clamp, iI_nat, vin_i, iI_le, iI_lt, iI_eq, mn_i, mx_i, if_true, if_false, if_pos, if_neg, li_0, li_1, li_2, li_3, li_4, li_5, li_6, li_7, li_8, li_9, li_10, li_11, li_12, li_14, li_15, li_16, li_20, li_21, li_24, li_28, li_30, li_31, li_40, li_41, li_42, li_43, li_44, li_45, li_47, li_48, li_49, li_57, li_59, li_60, li_61, li_62, li_63, li_70, li_71, li_76, li_80, li_96, li_97, li_98, li_99, li_100, li_101, li_102, li_103, li_104, li_105, li_106, li_107, li_108, li_109, li_110, li_111, li_112, li_113, li_114, li_115, li_116, li_117, li_118, li_119, li_120, li_128, li_142, li_255, li_320, li_781, li_852, li_999, li_1000, li_2000, li_3000, li_9999, li_12345, li_65536, li_1000000, li_252645135, li_858993459, li_1103515245, li_1431655765]
      exact ⟨trivial, hd, hp⟩
    rw [fX12_even_L71, evA]
    simp (disch := omega) only [gd_t, so_some, so_bind, so_gd, so_none, Option.bind_some, iI_add, iI_sub, iI_mul, iI_neg, iI_clamp, iI_nat, vin_i, iI_le, iI_lt, iI_eq, mn_i, mx_i, if_true, if_false, if_pos, if_neg, li_0, li_1, li_2, li_3, li_4, li_5, li_6, li_7, li_8, li_9, li_10, li_11, li_12, li_14, li_15, li_16, li_20, li_21, li_24, li_28, li_30, li_31, li_40, li_41, li_42, li_43, li_44, li_45, li_47, li_48, li_49, li_57, li_59, li_60, li_61, li_62, li_63, li_70, li_71, li_76, li_80, li_96, li_97, li_98, li_99, li_100, li_101, li_102, li_103, li_104, li_105, li_106, li_107, li_108, li_109, li_110, li_111, li_112, li_113, li_114, li_115, li_116, li_117, li_118, li_119, li_120, li_128, li_142, li_255, li_320, li_781, li_852, li_999, li_1000, li_2000, li_3000, li_9999, li_12345, li_65536, li_1000000, li_252645135, li_858993459, li_1103515245, li_1431655765]
    refine so_mono (m_ev_L82 h7 a0 (by omega) 7 0 c FU t d p (by omega) (by omega) (by omega) (show 7 < 4000 by omega) I hd hp) ?_
    rintro o ⟨o1, o2, o3⟩
    rw [o1]
    exact ih (a + 1) (c + 7) f _ _ _ (by omega) (by omega) (by omega) (by omega) (evI_L h7 a0 (by omega) 7 0 c t (by omega) (by omega) I) o2 o3
theorem arr_ext {k : Int} {p : Nat → Int32} {F : Int → Int} (hp : Arr k p F) (k0 : 0 ≤ k) : Arr (k + 1) (upd p k.toNat (iI (F k))) F := fun x x0 x1 => by
  by_cases q : x = k
  · rw [q, upd, if_pos rfl]
  · rw [upd, if_neg (by omega)]
    exact hp.at x0 (by omega)
theorem c_ev_L17 {A : Int → Int} {debt : Nat → Int32} (hd : Arr 49 debt (fun i => A (21 + i))) : ∀ (m : Nat) (k : Int) (f : Nat) (p : Nat → Int32), 0 ≤ k → k + m = 7 → m < f → Arr k p (fun b => oTo A b - oBy A b) →
    So (fX11_even_L17 debt f (iI k) p) (fun o => Arr 7 o (fun b => oTo A b - oBy A b))
  | 0, k, f + 1, p, k0, hk, hf, hp => by
    rw [fX11_even_L17]
    simp (disch := omega) only [gd_t, so_some, so_bind, so_gd, so_none, Option.bind_some, iI_add, iI_sub, iI_mul, iI_neg, iI_clamp, iI_nat, vin_i, iI_le, iI_lt, iI_eq, mn_i, mx_i, if_true, if_false, if_pos, if_neg, li_0, li_1, li_2, li_3, li_4, li_5, li_6, li_7, li_8, li_9, li_10, li_11, li_12, li_14, li_15, li_16, li_20, li_21, li_24, li_28, li_30, li_31, li_40, li_41, li_42, li_43, li_44, li_45, li_47, li_48, li_49, li_57, li_59, li_60, li_61, li_62, li_63, li_70, li_71, li_76, li_80, li_96, li_97, li_98, li_99, li_100, li_101, li_102, li_103, li_104, li_105, li_106, li_107, li_108, li_109, li_110, li_111, li_112, li_113, li_114, li_115, li_116, li_117, li_118, li_119, li_120, li_128, li_142, li_255, li_320, li_781, li_852, li_999, li_1000, li_2000, li_3000, li_9999, li_12345, li_65536, li_1000000, li_252645135, li_858993459, li_1103515245, li_1431655765]
    exact hp.le (by omega)
  | m + 1, k, f + 1, p, k0, hk, hf, hp => by
    have d := c_balance hd (b := k) k0 (by omega)
    rw [fX11_even_L17]
    simp (disch := omega) only [gd_t, so_some, so_bind, so_gd, so_none, Option.bind_some, iI_add, iI_sub, iI_mul, iI_neg, iI_clamp, iI_nat, vin_i, iI_le, iI_lt, iI_eq, mn_i, mx_i, if_true, if_false, if_pos, if_neg, li_0, li_1, li_2, li_3, li_4, li_5, li_6, li_7, li_8, li_9, li_10, li_11, li_12, li_14, li_15, li_16, li_20, li_21, li_24, li_28, li_30, li_31, li_40, li_41, li_42, li_43, li_44, li_45, li_47, li_48, li_49, li_57, li_59, li_60, li_61, li_62, li_63, li_70, li_71, li_76, li_80, li_96, li_97, li_98, li_99, li_100, li_101, li_102, li_103, li_104, li_105, li_106, li_107, li_108, li_109, li_110, li_111, li_112, li_113, li_114, li_115, li_116, li_117, li_118, li_119, li_120, li_128, li_142, li_255, li_320, li_781, li_852, li_999, li_1000, li_2000, li_3000, li_9999, li_12345, li_65536, li_1000000, li_252645135, li_858993459, li_1103515245, li_1431655765, d]
    exact c_ev_L17 hd m (k + 1) f _ (by omega) (by omega) (by omega) (arr_ext hp k0)
theorem m_ev_L20 {A : Int → Int} {a : Nat → Int32} (ha : Arr 71 a A) {h : Int} (h7 : h ≤ 7) : ∀ (m : Nat) (k : Int) (f : Nat) (p : Nat → Int32), 0 ≤ k → k + m = h → m < f → Arr k p (fun b => oTo A b - oBy A b) →
    So (fX12_even_L20 (iI h) a f (iI k) p) (fun o => Arr h o (fun b => oTo A b - oBy A b))
  | 0, k, f + 1, p, k0, hk, hf, hp => by
    rw [fX12_even_L20]
    simp (disch := omega) only [gd_t, so_some, so_bind, so_gd, so_none, Option.bind_some, iI_add, iI_sub, iI_mul, iI_neg, iI_clamp, iI_nat, vin_i, iI_le, iI_lt, iI_eq, mn_i, mx_i, if_true, if_false, if_pos, if_neg, li_0, li_1, li_2, li_3, li_4, li_5, li_6, li_7, li_8, li_9, li_10, li_11, li_12, li_14, li_15, li_16, li_20, li_21, li_24, li_28, li_30, li_31, li_40, li_41, li_42, li_43, li_44, li_45, li_47, li_48, li_49, li_57, li_59, li_60, li_61, li_62, li_63, li_70, li_71, li_76, li_80, li_96, li_97, li_98, li_99, li_100, li_101, li_102, li_103, li_104, li_105, li_106, li_107, li_108, li_109, li_110, li_111, li_112, li_113, li_114, li_115, li_116, li_117, li_118, li_119, li_120, li_128, li_142, li_255, li_320, li_781, li_852, li_999, li_1000, li_2000, li_3000, li_9999, li_12345, li_65536, li_1000000, li_252645135, li_858993459, li_1103515245, li_1431655765]
    exact hp.le (by omega)
  | m + 1, k, f + 1, p, k0, hk, hf, hp => by
    have d := m_netOf ha (b := k) k0 (by omega)
    rw [fX12_even_L20]
    simp (disch := omega) only [gd_t, so_some, so_bind, so_gd, so_none, Option.bind_some, iI_add, iI_sub, iI_mul, iI_neg, iI_clamp, iI_nat, vin_i, iI_le, iI_lt, iI_eq, mn_i, mx_i, if_true, if_false, if_pos, if_neg, li_0, li_1, li_2, li_3, li_4, li_5, li_6, li_7, li_8, li_9, li_10, li_11, li_12, li_14, li_15, li_16, li_20, li_21, li_24, li_28, li_30, li_31, li_40, li_41, li_42, li_43, li_44, li_45, li_47, li_48, li_49, li_57, li_59, li_60, li_61, li_62, li_63, li_70, li_71, li_76, li_80, li_96, li_97, li_98, li_99, li_100, li_101, li_102, li_103, li_104, li_105, li_106, li_107, li_108, li_109, li_110, li_111, li_112, li_113, li_114, li_115, li_116, li_117, li_118, li_119, li_120, li_128, li_142, li_255, li_320, li_781, li_852, li_999, li_1000, li_2000, li_3000, li_9999, li_12345, li_65536, li_1000000, li_252645135, li_858993459, li_1103515245, li_1431655765, d]
    exact m_ev_L20 ha h7 m (k + 1) f _ (by omega) (by omega) (by omega) (arr_ext hp k0)
def noD (A : Int → Int) : Int → Int := fun i => if 21 ≤ i ∧ i < 70 then 0 else A i
theorem m_ev_L48 {A : Int → Int} : ∀ (m : Nat) (k : Int) (f : Nat) (a : Nat → Int32), 21 ≤ k → k + m = 70 → m < f → Arr 71 a (fun i => if 21 ≤ i ∧ i < k then 0 else A i) →
    So (fX12_even_L48 f (iI k) a) (fun o => Arr 71 o (noD A))
  | 0, k, f + 1, a, k0, hk, hf, ha => by
    rw [fX12_even_L48]
    simp (disch := omega) only [gd_t, so_some, so_bind, so_gd, so_none, Option.bind_some, iI_add, iI_sub, iI_mul, iI_neg, iI_clamp, iI_nat, vin_i, iI_le, iI_lt, iI_eq, mn_i, mx_i, if_true, if_false, if_pos, if_neg, li_0, li_1, li_2, li_3, li_4, li_5, li_6, li_7, li_8, li_9, li_10, li_11, li_12, li_14, li_15, li_16, li_20, li_21, li_24, li_28, li_30, li_31, li_40, li_41, li_42, li_43, li_44, li_45, li_47, li_48, li_49, li_57, li_59, li_60, li_61, li_62, li_63, li_70, li_71, li_76, li_80, li_96, li_97, li_98, li_99, li_100, li_101, li_102, li_103, li_104, li_105, li_106, li_107, li_108, li_109, li_110, li_111, li_112, li_113, li_114, li_115, li_116, li_117, li_118, li_119, li_120, li_128, li_142, li_255, li_320, li_781, li_852, li_999, li_1000, li_2000, li_3000, li_9999, li_12345, li_65536, li_1000000, li_252645135, li_858993459, li_1103515245, li_1431655765]
    have : k = 70 := by omega
    subst this
    exact ha
  | m + 1, k, f + 1, a, k0, hk, hf, ha => by
    rw [fX12_even_L48]
    simp (disch := omega) only [gd_t, so_some, so_bind, so_gd, so_none, Option.bind_some, iI_add, iI_sub, iI_mul, iI_neg, iI_clamp, iI_nat, vin_i, iI_le, iI_lt, iI_eq, mn_i, mx_i, if_true, if_false, if_pos, if_neg, li_0, li_1, li_2, li_3, li_4, li_5, li_6, li_7, li_8, li_9, li_10, li_11, li_12, li_14, li_15, li_16, li_20, li_21, li_24, li_28, li_30, li_31, li_40, li_41, li_42, li_43, li_44, li_45, li_47, li_48, li_49, li_57, li_59, li_60, li_61, li_62, li_63, li_70, li_71, li_76, li_80, li_96, li_97, li_98, li_99, li_100, li_101, li_102, li_103, li_104, li_105, li_106, li_107, li_108, li_109, li_110, li_111, li_112, li_113, li_114, li_115, li_116, li_117, li_118, li_119, li_120, li_128, li_142, li_255, li_320, li_781, li_852, li_999, li_1000, li_2000, li_3000, li_9999, li_12345, li_65536, li_1000000, li_252645135, li_858993459, li_1103515245, li_1431655765]
    refine m_ev_L48 m (k + 1) f _ (by omega) (by omega) (by omega) ((ha.up (k := k) 0 (by omega)).congr (fun x x0 x1 => ?_))
    by_cases hx : x = k
    · rw [hx, upI_s, if_pos (by omega)]
    · rw [upI_o _ hx]
      by_cases q : 21 ≤ x ∧ x < k
      · rw [if_pos q, if_pos (by omega)]
      · rw [if_neg q, if_neg (by omega)]
theorem SG.nod {h n : Int} {A : Int → Int} (H : SG h n A) : SG h n (noD A) := by
  refine ⟨⟨fun i i0 i1 => ?_, fun i i0 i1 => ?_, ?_⟩, ⟨fun i i0 i1 => ?_, fun i i0 i1 => ?_, fun i j i0 i1 j0 j1 q => ?_⟩, ?_⟩
  · rw [noD, if_neg (by omega)]; exact H.1.1 i i0 i1
  · rw [noD, if_pos (by omega)]; omega
  · rw [noD, if_neg (by omega)]; exact H.1.2.2
  · rw [noD, if_neg (by omega)]; exact H.2.1.1 i i0 i1
  · rw [noD]
    by_cases w : 21 ≤ 14 + i ∧ 14 + i < 70
    · rw [if_pos w]
    · rw [if_neg w]; exact H.2.1.2.1 i i0 i1
  · rw [noD, if_pos (by omega)]
  · rw [noD, if_neg (by omega)]; exact H.2.2
theorem net_0 {h : Int} {A : Int → Int} (Z : ZB h A) {b : Int} (b0 : 0 ≤ b) (b1 : b < 7) (hb : h ≤ b) : oTo A b - oBy A b = 0 := by
  have e1 : oTo A b = 0 := sI_0 (fun j j0 j1 => Z.2.2 j b (by omega) (by omega) b0 b1 (Or.inr (Or.inl hb)))
  have e2 : oBy A b = 0 := sI_0 (fun j j0 j1 => Z.2.2 b j b0 b1 (by omega) (by omega) (Or.inl hb))
  omega
theorem ev_both {h n : Int} (h0 : 0 ≤ h) (h7 : h ≤ 7) {B : Int → Int} {t : ET} (I : EvI h n B 0 t) (e : t.1 = 0) : ∃ T : ET, EvI h n B 49 T ∧
    (∀ d p, Arr 49 d (fun i => t.2.1 (21 + i)) → Arr 7 p t.2.2 → So (fX5_owesAnew_L12 7 FU (iI 0) (iI 0) d p) (fun o => o.1 = iI T.1 ∧ Arr 49 o.2.1 (fun i => T.2.1 (21 + i)) ∧ Arr 7 o.2.2 T.2.2)) ∧
    (∀ d p, Arr 71 d t.2.1 → Arr h p t.2.2 → So (fX12_even_L71 (iI h) FU (iI 0) (iI 0) d p) (fun o => o.1 = iI T.1 ∧ Arr 71 o.2.1 T.2.1 ∧ Arr h o.2.2 T.2.2)) := by
  refine ⟨evA 7 0 t, evI_A h7 7 0 0 t (by omega) (by omega) I, fun d p hd hp => ?_, fun d p hd hp => ?_⟩
  · have := c_ev_L12 h7 7 0 0 FU t d p (by omega) (by omega) (show 7 < 4000 by omega) I hd hp
    rw [e] at this
    exact this
  · have := m_ev_L71 h7 7 0 0 FU t d p (by omega) h0 (by omega) (show 7 < 4000 by omega) I hd hp
    rw [e] at this
    exact this
theorem R.pul {n : Int} {g : GH} {σ' : CS} {τ' : MS} {l : List Int32} {x : Int32} {a : Nat → Int32} (n0 : 0 ≤ n ∧ n < 1000) (G : RG n g) (u1 : g.2.2.2.2.2.1 ≤ 12) {A' : Int → Int} (hA : SG g.1.1 (n + 1) A') (_ : Rw l x a) (hl : l.length ≤ 8) (c : RC ((g.1, g.2.1, A', g.2.2.2.1, puU g.2.2.2.2.1 g.2.2.2.2.2.1 g.2.2.1, puN g.2.2.2.2.2.1, g.2.2.2.2.2.2.1, g.2.2.2.2.2.2.2.1, l, g.2.2.2.2.2.2.2.2.2.1, g.2.2.2.2.2.2.2.2.2.2.1, g.2.2.2.2.2.2.2.2.2.2.2.1, g.2.2.2.2.2.2.2.2.2.2.2.2.1, g.2.2.2.2.2.2.2.2.2.2.2.2.2.1, g.2.2.2.2.2.2.2.2.2.2.2.2.2.2.1, g.2.2.2.2.2.2.2.2.2.2.2.2.2.2.2) : GH) σ')
    (m : RM ((g.1, g.2.1, A', g.2.2.2.1, puU g.2.2.2.2.1 g.2.2.2.2.2.1 g.2.2.1, puN g.2.2.2.2.2.1, g.2.2.2.2.2.2.1, g.2.2.2.2.2.2.2.1, l, g.2.2.2.2.2.2.2.2.2.1, g.2.2.2.2.2.2.2.2.2.2.1, g.2.2.2.2.2.2.2.2.2.2.2.1, g.2.2.2.2.2.2.2.2.2.2.2.2.1, g.2.2.2.2.2.2.2.2.2.2.2.2.2.1, g.2.2.2.2.2.2.2.2.2.2.2.2.2.2.1, g.2.2.2.2.2.2.2.2.2.2.2.2.2.2.2) : GH) τ') : R (n + 1) σ' τ' := R.push n0 G u1 hA l hl c m
theorem s_even {n : Int} {σ : CS} {τ : MS} (h : R n σ τ) (hn : n < 1000) : Ok n (x_even σ) (y_even τ) := by
  obtain ⟨n0, g, c, m, G⟩ := h
  obtain ⟨c1, c2, c3, c4, c5, c6, c7, c8, c9⟩ := c
  obtain ⟨m1, m2, m3, m4, m5, m6, m7, m8, m9⟩ := m
  have e := G.1.1
  have hS := G.2.2.1
  have a7 := hS.2.2
  have I0 : EvI g.1.1 (n + 1) g.2.2.1 0 (0, noD g.2.2.1, fun b => oTo g.2.2.1 b - oBy g.2.2.1 b) :=
    ⟨⟨Int.le_refl 0, Int.le_refl 0⟩, (hS.mono (by omega)).nod, fun i hi => if_neg (by omega), fun j j0 j1 => by
      have x1 := oTo_b hS.1 (b := j) j0 j1
      have x2 := oBy_b hS.1 (b := j) j0 j1
      refine ⟨?_, fun hj => net_0 hS.2.1 j0 j1 hj⟩
      show -69993 ≤ oTo g.2.2.1 j - oBy g.2.2.1 j ∧ oTo g.2.2.1 j - oBy g.2.2.1 j ≤ 69993
      omega⟩
  obtain ⟨T, I1, K1, K2⟩ := ev_both e.1 e.2 I0 rfl
  have d3 := c_owedInAll e.1 e.2 hS.2.1 c3.2.2.2
  have d4 := m_allOwed m3 e.1 e.2
  unfold Ok x_even y_even fX11_even fX12_even fX5_owesAnew
  rw [m1.1]
  simp only [li_0, li_21, d3, d4, so_bind, so_some, Option.bind_some]
  refine so_mono (c_startCall c3 _ _ _ _ _ _ _ _ _) ?_
  rintro o ⟨-, hb⟩
  refine so_mono (c_ev_L17 c3.2.2.2 7 0 FU _ (by omega) (by omega) (show 7 < 4000 by omega) (fun x x0 x1 => by omega)) ?_
  intro p hp
  refine so_mono (t_fill (n := 49) (by omega) 0 _) ?_
  intro d hd
  refine so_mono (K1 d p (hd.congr (fun x x0 x1 => (if_pos (by omega)).symm)) hp) ?_
  rintro w ⟨w1, w2, w3⟩
  have d5 := c_owedInAll e.1 e.2 I1.2.1.2.1 w2
  simp only [d5, so_some, so_bind, Option.bind_some]
  refine so_mono (c_tell _ _ _) ?_
  intro t hr
  rw [w1]
  refine so_mono (c_rem_t c5 hb (by have := I1.1; omega) (by have := I1.1; omega)) ?_
  rintro r ⟨r1, r2⟩
  refine so_mono (m_remember m5 m3) ?_
  intro u hu
  refine so_mono (m_ev_L20 m3 e.2 g.1.1.toNat 0 FU _ (by omega) (by omega) (show _ < 4000 by omega) (fun x x0 x1 => by omega)) ?_
  intro p2 hp2
  refine so_mono (m_ev_L48 (A := g.2.2.1) 49 21 FU _ (by omega) (by omega) (show 49 < 4000 by omega) (m3.congr (fun x x0 x1 => (if_neg (by omega)).symm))) ?_
  intro d2 hd2
  refine so_mono (K2 d2 p2 hd2 hp2) ?_
  rintro z ⟨z1, z2, z3⟩
  have d6 := m_allOwed z2 e.1 e.2
  simp only [d6, so_some, so_bind, Option.bind_some]
  refine so_mono (m_tell _ _) ?_
  intro s hs
  refine ⟨by rw [r1, z1], R.pul ⟨n0.1, hn⟩ G c5.2.1 I1.2.1 hr (by simp) ⟨c1, c2, stc_debt c3 w2 (fun i hi => I1.2.2.1 i hi), c4, r2, c6, hr, c8, c9⟩ ⟨m1, m2, z2, m4, hu, m6, hs, m8, m9⟩⟩
