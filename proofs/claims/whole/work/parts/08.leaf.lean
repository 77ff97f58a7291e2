/-! what is told -/
def Rw (l : List Int32) (c : Int32) (a : Nat → Int32) : Prop := c = iI l.length ∧ ∀ (i : Nat) (v : Int32), l[i]? = some v → a i = v
theorem Rw.more {l : List Int32} {c : Int32} {a : Nat → Int32} (h : Rw l c a) (v : Int32) : Rw (l ++ [v]) (iI (l.length + 1)) (upd a (l.length : Int).toNat v) := by
  refine ⟨by rw [List.length_append]; rfl, fun i w hw => ?_⟩
  have e : (l.length : Int).toNat = l.length := by omega
  rw [e]
  by_cases hi : i = l.length
  · subst hi
    rw [List.getElem?_append_right (Nat.le_refl _), Nat.sub_self] at hw
    have : v = w := by simpa using hw
    subst this
    simp [upd]
  · by_cases h2 : i < l.length
    · rw [List.getElem?_append_left h2] at hw
      rw [← h.2 i w hw]
      simp [upd, hi]
    · rw [List.getElem?_eq_none_iff.2 (by rw [List.length_append]; show l.length + 1 ≤ i; omega)] at hw
      cases hw
theorem Rw.nil (a : Nat → Int32) : Rw [] (iI 0) a := ⟨rfl, fun i v h => by simp at h⟩
theorem c_more {l : List Int32} {c : Int32} {a : Nat → Int32} (h : Rw l c a) (hl : l.length < 8) (v : Int32) : So (fX11_tellMore c a v) (fun o => Rw (l ++ [v]) o.1 o.2) := by
  unfold fX11_tellMore
  rw [h.1]
  simp (disch := omega) only [gd_t, so_some, so_bind, so_gd, so_none, Option.bind_some, iI_add, iI_sub, iI_mul, iI_neg, iI_clamp, iI_nat, vin_i, iI_le, iI_lt, iI_eq, mn_i, mx_i, if_true, if_false, if_pos, if_neg, li_0, li_1, li_2, li_3, li_4, li_5, li_6, li_7, li_8, li_9, li_10, li_11, li_12, li_14, li_15, li_16, li_20, li_21, li_24, li_28, li_30, li_31, li_40, li_41, li_42, li_43, li_44, li_45, li_47, li_48, li_49, li_57, li_59, li_60, li_61, li_62, li_63, li_70, li_71, li_76, li_80, li_96, li_97, li_98, li_99, li_100, li_101, li_102, li_103, li_104, li_105, li_106, li_107, li_108, li_109, li_110, li_111, li_112, li_113, li_114, li_115, li_116, li_117, li_118, li_119, li_120, li_128, li_142, li_255, li_320, li_781, li_852, li_999, li_1000, li_2000, li_3000, li_9999, li_12345, li_65536, li_1000000, li_252645135, li_858993459, li_1103515245, li_1431655765]
  exact h.more v
theorem c_tell (c : Int32) (a : Nat → Int32) (v : Int32) : So (fX11_tell c a v) (fun o => Rw [v] o.1 o.2) := by
  unfold fX11_tell
  rw [so_bind, li_0]
  refine so_mono (c_more (Rw.nil a) (by decide) v) ?_
  intro o ho
  rw [so_some]
  exact ho
theorem c_tell2 (c : Int32) (a : Nat → Int32) (v w : Int32) : So (fX11_tell_ c a v w) (fun o => Rw [v, w] o.1 o.2) := by
  unfold fX11_tell_
  simp only [so_bind]
  refine so_mono (c_tell c a v) ?_
  intro o ho
  refine so_mono (c_more ho (by simp) w) ?_
  intro p hp
  rw [so_some]
  exact hp
theorem m_more {l : List Int32} {c : Int32} {a : Nat → Int32} (h : Rw l c a) (hl : l.length < 16) (v : Int32) : So (fX12_tell c a v) (fun o => Rw (l ++ [v]) o.1 o.2) := by
  unfold fX12_tell
  rw [h.1]
  simp (disch := omega) only [gd_t, so_some, so_bind, so_gd, so_none, Option.bind_some, iI_add, iI_sub, iI_mul, iI_neg, iI_clamp, iI_nat, vin_i, iI_le, iI_lt, iI_eq, mn_i, mx_i, if_true, if_false, if_pos, if_neg, li_0, li_1, li_2, li_3, li_4, li_5, li_6, li_7, li_8, li_9, li_10, li_11, li_12, li_14, li_15, li_16, li_20, li_21, li_24, li_28, li_30, li_31, li_40, li_41, li_42, li_43, li_44, li_45, li_47, li_48, li_49, li_57, li_59, li_60, li_61, li_62, li_63, li_70, li_71, li_76, li_80, li_96, li_97, li_98, li_99, li_100, li_101, li_102, li_103, li_104, li_105, li_106, li_107, li_108, li_109, li_110, li_111, li_112, li_113, li_114, li_115, li_116, li_117, li_118, li_119, li_120, li_128, li_142, li_255, li_320, li_781, li_852, li_999, li_1000, li_2000, li_3000, li_9999, li_12345, li_65536, li_1000000, li_252645135, li_858993459, li_1103515245, li_1431655765]
  exact h.more v
theorem m_tell (a : Nat → Int32) (v : Int32) : So (fX12_tell 0 a v) (fun o => Rw [v] o.1 o.2) := m_more (Rw.nil a) (by decide) v
/-! sums -/
theorem sI_ext {f g : Int → Int} : ∀ {m : Nat} {k : Int}, (∀ j, k ≤ j → j < k + m → f j = g j) → sI f m k = sI g m k
  | 0, _, _ => rfl
  | m + 1, k, h => by
    rw [sI, sI, h k (by omega) (by omega), sI_ext (m := m) (k := k + 1) (fun j j0 j1 => h j (by omega) (by omega))]
theorem sI_b {f : Int → Int} {c : Int} : ∀ {m : Nat} {k : Int}, (∀ j, k ≤ j → j < k + m → 0 ≤ f j ∧ f j ≤ c) → 0 ≤ sI f m k ∧ sI f m k ≤ m * c
  | 0, _, _ => by simp [sI]
  | m + 1, k, h => by
    have h1 := h k (by omega) (by omega)
    have h2 := sI_b (m := m) (k := k + 1) (fun j j0 j1 => h j (by omega) (by omega))
    rw [sI]
    have e : ((m + 1 : Nat) : Int) * c = m * c + c := by rw [Int.natCast_add, Int.add_mul]; simp
    rw [e]
    omega
theorem sI_split (f : Int → Int) : ∀ (m n : Nat) (k : Int), sI f (m + n) k = sI f m k + sI f n (k + m)
  | 0, n, k => by simp [sI]
  | m + 1, n, k => by
    rw [show m + 1 + n = (m + n) + 1 by omega, sI, sI, sI_split f m n (k + 1)]
    rw [show k + 1 + (m : Int) = k + ((m + 1 : Nat) : Int) by omega]
    omega
theorem sI_0 {f : Int → Int} : ∀ {m : Nat} {k : Int}, (∀ j, k ≤ j → j < k + m → f j = 0) → sI f m k = 0
  | 0, _, _ => rfl
  | m + 1, k, h => by
    rw [sI, h k (by omega) (by omega), sI_0 (m := m) (k := k + 1) (fun j j0 j1 => h j (by omega) (by omega))]
    rfl
theorem sI_cut {f : Int → Int} {h : Int} (h0 : 0 ≤ h) {n : Nat} (hn : h ≤ n) (hz : ∀ j, h ≤ j → j < n → f j = 0) : sI f n 0 = sI f h.toNat 0 := by
  obtain ⟨m, hm⟩ : ∃ m : Nat, n = h.toNat + m := ⟨n - h.toNat, by omega⟩
  rw [hm, sI_split, sI_0 (m := m) (fun j j0 j1 => hz j (by omega) (by omega)), Int.add_zero]
/-- houses that aren't there have nothing -/
def ZB (h : Int) (A : Int → Int) : Prop := (∀ i, 2 * h ≤ i → i < 14 → A i = 0) ∧ (∀ i, h ≤ i → i < 7 → A (14 + i) = 0) ∧ (∀ i j, 0 ≤ i → i < 7 → 0 ≤ j → j < 7 → h ≤ i ∨ h ≤ j ∨ i = j → A (21 + (i * 7 + j)) = 0)
/-- what a house owes, what is owed to it -/
def oBy (A : Int → Int) (b : Int) : Int := sI (fun j => A (21 + (b * 7 + j))) 7 0
def oTo (A : Int → Int) (b : Int) : Int := sI (fun j => A (21 + (j * 7 + b))) 7 0
theorem oBy_b {A : Int → Int} (hA : WA A) {b : Int} (h0 : 0 ≤ b) (h1 : b < 7) : 0 ≤ oBy A b ∧ oBy A b ≤ 69993 := by
  have h := sI_b (f := fun j => A (21 + (b * 7 + j))) (c := 9999) (m := 7) (k := 0) (fun j j0 j1 => hA.2.1 _ (by omega) (by omega))
  unfold oBy
  omega
theorem oTo_b {A : Int → Int} (hA : WA A) {b : Int} (h0 : 0 ≤ b) (h1 : b < 7) : 0 ≤ oTo A b ∧ oTo A b ≤ 69993 := by
  have h := sI_b (f := fun j => A (21 + (j * 7 + b))) (c := 9999) (m := 7) (k := 0) (fun j j0 j1 => hA.2.1 _ (by omega) (by omega))
  unfold oTo
  omega
theorem c_owedBy_L {A : Int → Int} {debt : Nat → Int32} (hd : Arr 49 debt (fun i => A (21 + i))) {b : Int} (h0 : 0 ≤ b) (h1 : b < 7) : ∀ (m : Nat) (k s : Int) (f : Nat), 0 ≤ k → k + m = 7 → m < f →
    fX5_owedBy_L4 debt (iI b) f (iI s) (iI k) = some (iI (s + sI (fun j => A (21 + (b * 7 + j))) m k))
  | 0, k, s, f + 1, k0, hk, hf => by
    rw [fX5_owedBy_L4]
    simp (disch := omega) only [gd_t, so_some, so_bind, so_gd, so_none, Option.bind_some, iI_add, iI_sub, iI_mul, iI_neg, iI_clamp, iI_nat, vin_i, iI_le, iI_lt, iI_eq, mn_i, mx_i, if_true, if_false, if_pos, if_neg, li_0, li_1, li_2, li_3, li_4, li_5, li_6, li_7, li_8, li_9, li_10, li_11, li_12, li_14, li_15, li_16, li_20, li_21, li_24, li_28, li_30, li_31, li_40, li_41, li_42, li_43, li_44, li_45, li_47, li_48, li_49, li_57, li_59, li_60, li_61, li_62, li_63, li_70, li_71, li_76, li_80, li_96, li_97, li_98, li_99, li_100, li_101, li_102, li_103, li_104, li_105, li_106, li_107, li_108, li_109, li_110, li_111, li_112, li_113, li_114, li_115, li_116, li_117, li_118, li_119, li_120, li_128, li_142, li_255, li_320, li_781, li_852, li_999, li_1000, li_2000, li_3000, li_9999, li_12345, li_65536, li_1000000, li_252645135, li_858993459, li_1103515245, li_1431655765, sI, Int.add_zero]
  | m + 1, k, s, f + 1, k0, hk, hf => by
    rw [fX5_owedBy_L4]
    simp (disch := omega) only [gd_t, so_some, so_bind, so_gd, so_none, Option.bind_some, iI_add, iI_sub, iI_mul, iI_neg, iI_clamp, iI_nat, vin_i, iI_le, iI_lt, iI_eq, mn_i, mx_i, if_true, if_false, if_pos, if_neg, li_0, li_1, li_2, li_3, li_4, li_5, li_6, li_7, li_8, li_9, li_10, li_11, li_12, li_14, li_15, li_16, li_20, li_21, li_24, li_28, li_30, li_31, li_40, li_41, li_42, li_43, li_44, li_45, li_47, li_48, li_49, li_57, li_59, li_60, li_61, li_62, li_63, li_70, li_71, li_76, li_80, li_96, li_97, li_98, li_99, li_100, li_101, li_102, li_103, li_104, li_105, li_106, li_107, li_108, li_109, li_110, li_111, li_112, li_113, li_114, li_115, li_116, li_117, li_118, li_119, li_120, li_128, li_142, li_255, li_320, li_781, li_852, li_999, li_1000, li_2000, li_3000, li_9999, li_12345, li_65536, li_1000000, li_252645135, li_858993459, li_1103515245, li_1431655765, hd.at]
    rw [c_owedBy_L hd h0 h1 m (k + 1) _ f (by omega) (by omega) (by omega), sI, Int.add_assoc]
theorem c_owedBy {A : Int → Int} {debt : Nat → Int32} (hd : Arr 49 debt (fun i => A (21 + i))) {b : Int} (h0 : 0 ≤ b) (h1 : b < 7) : fX5_owedBy debt (iI b) = some (iI (oBy A b)) := by
  have h := c_owedBy_L hd h0 h1 7 0 0 FU (by omega) (by omega) (show _ < 4000 by omega)
  unfold fX5_owedBy
  rw [li_0, h, Option.bind_some, Int.zero_add]
  rfl
theorem c_owedTo_L {A : Int → Int} {debt : Nat → Int32} (hd : Arr 49 debt (fun i => A (21 + i))) {b : Int} (h0 : 0 ≤ b) (h1 : b < 7) : ∀ (m : Nat) (k s : Int) (f : Nat), 0 ≤ k → k + m = 7 → m < f →
    fX5_owedTo_L4 debt (iI b) f (iI s) (iI k) = some (iI (s + sI (fun j => A (21 + (j * 7 + b))) m k))
  | 0, k, s, f + 1, k0, hk, hf => by
    rw [fX5_owedTo_L4]
    simp (disch := omega) only [gd_t, so_some, so_bind, so_gd, so_none, Option.bind_some, iI_add, iI_sub, iI_mul, iI_neg, iI_clamp, iI_nat, vin_i, iI_le, iI_lt, iI_eq, mn_i, mx_i, if_true, if_false, if_pos, if_neg, li_0, li_1, li_2, li_3, li_4, li_5, li_6, li_7, li_8, li_9, li_10, li_11, li_12, li_14, li_15, li_16, li_20, li_21, li_24, li_28, li_30, li_31, li_40, li_41, li_42, li_43, li_44, li_45, li_47, li_48, li_49, li_57, li_59, li_60, li_61, li_62, li_63, li_70, li_71, li_76, li_80, li_96, li_97, li_98, li_99, li_100, li_101, li_102, li_103, li_104, li_105, li_106, li_107, li_108, li_109, li_110, li_111, li_112, li_113, li_114, li_115, li_116, li_117, li_118, li_119, li_120, li_128, li_142, li_255, li_320, li_781, li_852, li_999, li_1000, li_2000, li_3000, li_9999, li_12345, li_65536, li_1000000, li_252645135, li_858993459, li_1103515245, li_1431655765, sI, Int.add_zero]
  | m + 1, k, s, f + 1, k0, hk, hf => by
    rw [fX5_owedTo_L4]
    simp (disch := omega) only [gd_t, so_some, so_bind, so_gd, so_none, Option.bind_some, iI_add, iI_sub, iI_mul, iI_neg, iI_clamp, iI_nat, vin_i, iI_le, iI_lt, iI_eq, mn_i, mx_i, if_true, if_false, if_pos, if_neg, li_0, li_1, li_2, li_3, li_4, li_5, li_6, li_7, li_8, li_9, li_10, li_11, li_12, li_14, li_15, li_16, li_20, li_21, li_24, li_28, li_30, li_31, li_40, li_41, li_42, li_43, li_44, li_45, li_47, li_48, li_49, li_57, li_59, li_60, li_61, li_62, li_63, li_70, li_71, li_76, li_80, li_96, li_97, li_98, li_99, li_100, li_101, li_102, li_103, li_104, li_105, li_106, li_107, li_108, li_109, li_110, li_111, li_112, li_113, li_114, li_115, li_116, li_117, li_118, li_119, li_120, li_128, li_142, li_255, li_320, li_781, li_852, li_999, li_1000, li_2000, li_3000, li_9999, li_12345, li_65536, li_1000000, li_252645135, li_858993459, li_1103515245, li_1431655765, hd.at]
    rw [c_owedTo_L hd h0 h1 m (k + 1) _ f (by omega) (by omega) (by omega), sI, Int.add_assoc]
theorem c_owedTo {A : Int → Int} {debt : Nat → Int32} (hd : Arr 49 debt (fun i => A (21 + i))) {b : Int} (h0 : 0 ≤ b) (h1 : b < 7) : fX5_owedTo debt (iI b) = some (iI (oTo A b)) := by
  have h := c_owedTo_L hd h0 h1 7 0 0 FU (by omega) (by omega) (show _ < 4000 by omega)
  unfold fX5_owedTo
  rw [li_0, h, Option.bind_some, Int.zero_add]
  rfl
theorem c_balance {A : Int → Int} {debt : Nat → Int32} (hd : Arr 49 debt (fun i => A (21 + i))) {b : Int} (h0 : 0 ≤ b) (h1 : b < 7) : fX5_balance debt (iI b) = some (iI (oTo A b - oBy A b)) := by
  unfold fX5_balance
  rw [c_owedTo hd h0 h1, c_owedBy hd h0 h1, Option.bind_some, Option.bind_some, iI_sub]
theorem m_owes_L {A : Int → Int} {a : Nat → Int32} (ha : Arr 71 a A) {b : Int} (h0 : 0 ≤ b) (h1 : b < 7) : ∀ (m : Nat) (k s : Int) (f : Nat), 0 ≤ k → k + m = 7 → m < f →
    fX12_owes_L4 71 a (iI b) f (iI s) (iI k) = some (iI (s + sI (fun j => A (21 + (b * 7 + j))) m k))
  | 0, k, s, f + 1, k0, hk, hf => by
    rw [fX12_owes_L4]
    simp (disch := omega) only [gd_t, so_some, so_bind, so_gd, so_none, Option.bind_some, iI_add, iI_sub, iI_mul, iI_neg, iI_clamp, iI_nat, vin_i, iI_le, iI_lt, iI_eq, mn_i, mx_i, if_true, if_false, if_pos, if_neg, li_0, li_1, li_2, li_3, li_4, li_5, li_6, li_7, li_8, li_9, li_10, li_11, li_12, li_14, li_15, li_16, li_20, li_21, li_24, li_28, li_30, li_31, li_40, li_41, li_42, li_43, li_44, li_45, li_47, li_48, li_49, li_57, li_59, li_60, li_61, li_62, li_63, li_70, li_71, li_76, li_80, li_96, li_97, li_98, li_99, li_100, li_101, li_102, li_103, li_104, li_105, li_106, li_107, li_108, li_109, li_110, li_111, li_112, li_113, li_114, li_115, li_116, li_117, li_118, li_119, li_120, li_128, li_142, li_255, li_320, li_781, li_852, li_999, li_1000, li_2000, li_3000, li_9999, li_12345, li_65536, li_1000000, li_252645135, li_858993459, li_1103515245, li_1431655765, sI, Int.add_zero]
  | m + 1, k, s, f + 1, k0, hk, hf => by
    rw [fX12_owes_L4]
    simp (disch := omega) only [gd_t, so_some, so_bind, so_gd, so_none, Option.bind_some, iI_add, iI_sub, iI_mul, iI_neg, iI_clamp, iI_nat, vin_i, iI_le, iI_lt, iI_eq, mn_i, mx_i, if_true, if_false, if_pos, if_neg, li_0, li_1, li_2, li_3, li_4, li_5, li_6, li_7, li_8, li_9, li_10, li_11, li_12, li_14, li_15, li_16, li_20, li_21, li_24, li_28, li_30, li_31, li_40, li_41, li_42, li_43, li_44, li_45, li_47, li_48, li_49, li_57, li_59, li_60, li_61, li_62, li_63, li_70, li_71, li_76, li_80, li_96, li_97, li_98, li_99, li_100, li_101, li_102, li_103, li_104, li_105, li_106, li_107, li_108, li_109, li_110, li_111, li_112, li_113, li_114, li_115, li_116, li_117, li_118, li_119, li_120, li_128, li_142, li_255, li_320, li_781, li_852, li_999, li_1000, li_2000, li_3000, li_9999, li_12345, li_65536, li_1000000, li_252645135, li_858993459, li_1103515245, li_1431655765, ha.at]
    rw [m_owes_L ha h0 h1 m (k + 1) _ f (by omega) (by omega) (by omega), sI, ← Int.add_assoc]
    rw [show 21 + 7 * b + k = 21 + (b * 7 + k) by omega]
theorem m_owes {A : Int → Int} {a : Nat → Int32} (ha : Arr 71 a A) {b : Int} (h0 : 0 ≤ b) (h1 : b < 7) : fX12_owes 71 a (iI b) = some (iI (oBy A b)) := by
  have h := m_owes_L ha h0 h1 7 0 0 FU (by omega) (by omega) (show _ < 4000 by omega)
  unfold fX12_owes
  rw [li_0, h, Option.bind_some, Int.zero_add]
  rfl
theorem m_owed_L {A : Int → Int} {a : Nat → Int32} (ha : Arr 71 a A) {b : Int} (h0 : 0 ≤ b) (h1 : b < 7) : ∀ (m : Nat) (k s : Int) (f : Nat), 0 ≤ k → k + m = 7 → m < f →
    fX12_owed_L4 a (iI b) f (iI s) (iI k) = some (iI (s + sI (fun j => A (21 + (j * 7 + b))) m k))
  | 0, k, s, f + 1, k0, hk, hf => by
    rw [fX12_owed_L4]
    simp (disch := omega) only [gd_t, so_some, so_bind, so_gd, so_none, Option.bind_some, iI_add, iI_sub, iI_mul, iI_neg, iI_clamp, iI_nat, vin_i, iI_le, iI_lt, iI_eq, mn_i, mx_i, if_true, if_false, if_pos, if_neg, li_0, li_1, li_2, li_3, li_4, li_5, li_6, li_7, li_8, li_9, li_10, li_11, li_12, li_14, li_15, li_16, li_20, li_21, li_24, li_28, li_30, li_31, li_40, li_41, li_42, li_43, li_44, li_45, li_47, li_48, li_49, li_57, li_59, li_60, li_61, li_62, li_63, li_70, li_71, li_76, li_80, li_96, li_97, li_98, li_99, li_100, li_101, li_102, li_103, li_104, li_105, li_106, li_107, li_108, li_109, li_110, li_111, li_112, li_113, li_114, li_115, li_116, li_117, li_118, li_119, li_120, li_128, li_142, li_255, li_320, li_781, li_852, li_999, li_1000, li_2000, li_3000, li_9999, li_12345, li_65536, li_1000000, li_252645135, li_858993459, li_1103515245, li_1431655765, sI, Int.add_zero]
  | m + 1, k, s, f + 1, k0, hk, hf => by
    rw [fX12_owed_L4]
    simp (disch := omega) only [gd_t, so_some, so_bind, so_gd, so_none, Option.bind_some, iI_add, iI_sub, iI_mul, iI_neg, iI_clamp, iI_nat, vin_i, iI_le, iI_lt, iI_eq, mn_i, mx_i, if_true, if_false, if_pos, if_neg, li_0, li_1, li_2, li_3, li_4, li_5, li_6, li_7, li_8, li_9, li_10, li_11, li_12, li_14, li_15, li_16, li_20, li_21, li_24, li_28, li_30, li_31, li_40, li_41, li_42, li_43, li_44, li_45, li_47, li_48, li_49, li_57, li_59, li_60, li_61, li_62, li_63, li_70, li_71, li_76, li_80, li_96, li_97, li_98, li_99, li_100, li_101, li_102, li_103, li_104, li_105, li_106, li_107, li_108, li_109, li_110, li_111, li_112, li_113, li_114, li_115, li_116, li_117, li_118, li_119, li_120, li_128, li_142, li_255, li_320, li_781, li_852, li_999, li_1000, li_2000, li_3000, li_9999, li_12345, li_65536, li_1000000, li_252645135, li_858993459, li_1103515245, li_1431655765, ha.at]
    rw [m_owed_L ha h0 h1 m (k + 1) _ f (by omega) (by omega) (by omega), sI, ← Int.add_assoc]
    rw [show 21 + 7 * k + b = 21 + (k * 7 + b) by omega]
theorem m_owed {A : Int → Int} {a : Nat → Int32} (ha : Arr 71 a A) {b : Int} (h0 : 0 ≤ b) (h1 : b < 7) : fX12_owed a (iI b) = some (iI (oTo A b)) := by
  have h := m_owed_L ha h0 h1 7 0 0 FU (by omega) (by omega) (show _ < 4000 by omega)
  unfold fX12_owed
  rw [li_0, h, Option.bind_some, Int.zero_add]
  rfl
theorem m_netOf {A : Int → Int} {a : Nat → Int32} (ha : Arr 71 a A) {b : Int} (h0 : 0 ≤ b) (h1 : b < 7) : fX12_netOf a (iI b) = some (iI (oTo A b - oBy A b)) := by
  unfold fX12_netOf
  rw [m_owed ha h0 h1, m_owes ha h0 h1, Option.bind_some, Option.bind_some, iI_sub]
/-- all that is owed -/
def oAll (h : Int) (A : Int → Int) : Int := sI (oBy A) h.toNat 0
theorem oAll_49 {h : Int} (h0 : 0 ≤ h) (h7 : h ≤ 7) {A : Int → Int} (Z : ZB h A) : sI (fun i => A (21 + i)) 49 0 = oAll h A := by
  have e : sI (fun i => A (21 + i)) 49 0 = sI (oBy A) 7 0 := by
    simp only [sI, oBy, Int.reduceAdd, Int.reduceMul]
    omega
  rw [e]
  exact sI_cut h0 (n := 7) (by omega) (fun j j0 j1 => sI_0 (fun i i0 i1 => Z.2.2 j i (by omega) (by omega) (by omega) (by omega) (Or.inl j0)))
theorem c_owedInAll {h : Int} (h0 : 0 ≤ h) (h7 : h ≤ 7) {A : Int → Int} (Z : ZB h A) {debt : Nat → Int32} (hd : Arr 49 debt (fun i => A (21 + i))) : fX5_owedInAll debt = some (iI (oAll h A)) := by
  unfold fX5_owedInAll
  rw [t_sumOf (n := 49) (by omega) hd, Option.bind_some, ← oAll_49 h0 h7 Z]
theorem m_allOwed_L {A : Int → Int} {a : Nat → Int32} (ha : Arr 71 a A) {h : Int} (h7 : h ≤ 7) : ∀ (m : Nat) (k s : Int) (f : Nat), 0 ≤ k → k + m = h → m < f →
    fX12_allOwed_L4 (iI h) a f (iI s) (iI k) = some (iI (s + sI (oBy A) m k))
  | 0, k, s, f + 1, k0, hk, hf => by
    rw [fX12_allOwed_L4]
    simp (disch := omega) only [gd_t, so_some, so_bind, so_gd, so_none, Option.bind_some, iI_add, iI_sub, iI_mul, iI_neg, iI_clamp, iI_nat, vin_i, iI_le, iI_lt, iI_eq, mn_i, mx_i, if_true, if_false, if_pos, if_neg, li_0, li_1, li_2, li_3, li_4, li_5, li_6, li_7, li_8, li_9, li_10, li_11, li_12, li_14, li_15, li_16, li_20, li_21, li_24, li_28, li_30, li_31, li_40, li_41, li_42, li_43, li_44, li_45, li_47, li_48, li_49, li_57, li_59, li_60, li_61, li_62, li_63, li_70, li_71, li_76, li_80, li_96, li_97, li_98, li_99, li_100, li_101, li_102, li_103, li_104, li_105, li_106, li_107, li_108, li_109, li_110, li_111, li_112, li_113, li_114, li_115, li_116, li_117, li_118, li_119, li_120, li_128, li_142, li_255, li_320, li_781, li_852, li_999, li_1000, li_2000, li_3000, li_9999, li_12345, li_65536, li_1000000, li_252645135, li_858993459, li_1103515245, li_1431655765, sI, Int.add_zero]
  | m + 1, k, s, f + 1, k0, hk, hf => by
    rw [fX12_allOwed_L4]
    simp (disch := omega) only [gd_t, so_some, so_bind, so_gd, so_none, Option.bind_some, iI_add, iI_sub, iI_mul, iI_neg, iI_clamp, iI_nat, vin_i, iI_le, iI_lt, iI_eq, mn_i, mx_i, if_true, if_false, if_pos, if_neg, li_0, li_1, li_2, li_3, li_4, li_5, li_6, li_7, li_8, li_9, li_10, li_11, li_12, li_14, li_15, li_16, li_20, li_21, li_24, li_28, li_30, li_31, li_40, li_41, li_42, li_43, li_44, li_45, li_47, li_48, li_49, li_57, li_59, li_60, li_61, li_62, li_63, li_70, li_71, li_76, li_80, li_96, li_97, li_98, li_99, li_100, li_101, li_102, li_103, li_104, li_105, li_106, li_107, li_108, li_109, li_110, li_111, li_112, li_113, li_114, li_115, li_116, li_117, li_118, li_119, li_120, li_128, li_142, li_255, li_320, li_781, li_852, li_999, li_1000, li_2000, li_3000, li_9999, li_12345, li_65536, li_1000000, li_252645135, li_858993459, li_1103515245, li_1431655765, m_owes ha]
    rw [m_allOwed_L ha h7 m (k + 1) _ f (by omega) (by omega) (by omega), sI, Int.add_assoc]
theorem m_allOwed {A : Int → Int} {a : Nat → Int32} (ha : Arr 71 a A) {h : Int} (h0 : 0 ≤ h) (h7 : h ≤ 7) : fX12_allOwed (iI h) a = some (iI (oAll h A)) := by
  have h := m_allOwed_L ha h7 h.toNat 0 0 FU (by omega) (by omega) (show _ < 4000 by omega)
  unfold fX12_allOwed
  rw [li_0, h, Option.bind_some, Int.zero_add]
  rfl
/-- what lies on the paths -/
def oPa (h : Int) (A : Int → Int) : Int := sI (fun i => A (14 + i)) h.toNat 0
theorem c_onPaths {h : Int} (h0 : 0 ≤ h) (h7 : h ≤ 7) {A : Int → Int} (Z : ZB h A) {path : Nat → Int32} (hp : Arr 7 path (fun i => A (14 + i))) : fX5_onPaths path = some (iI (oPa h A)) := by
  unfold fX5_onPaths
  have e : sI (fun i => A (14 + i)) ((7 : Nat) : Nat) 0 = oPa h A := sI_cut h0 (n := 7) (by omega) (fun j j0 j1 => Z.2.1 j j0 j1)
  rw [t_sumOf (n := 7) (by omega) hp, Option.bind_some, e]
theorem m_paths_L {A : Int → Int} {a : Nat → Int32} (ha : Arr 71 a A) {h : Int} (h7 : h ≤ 7) : ∀ (m : Nat) (k s : Int) (f : Nat), 0 ≤ k → k + m = h → m < f →
    fX12_paths_L4 71 (iI h) a f (iI s) (iI k) = some (iI (s + sI (fun i => A (14 + i)) m k))
  | 0, k, s, f + 1, k0, hk, hf => by
    rw [fX12_paths_L4]
    simp (disch := omega) only [gd_t, so_some, so_bind, so_gd, so_none, Option.bind_some, iI_add, iI_sub, iI_mul, iI_neg, iI_clamp, iI_nat, vin_i, iI_le, iI_lt, iI_eq, mn_i, mx_i, if_true, if_false, if_pos, if_neg, li_0, li_1, li_2, li_3, li_4, li_5, li_6, li_7, li_8, li_9, li_10, li_11, li_12, li_14, li_15, li_16, li_20, li_21, li_24, li_28, li_30, li_31, li_40, li_41, li_42, li_43, li_44, li_45, li_47, li_48, li_49, li_57, li_59, li_60, li_61, li_62, li_63, li_70, li_71, li_76, li_80, li_96, li_97, li_98, li_99, li_100, li_101, li_102, li_103, li_104, li_105, li_106, li_107, li_108, li_109, li_110, li_111, li_112, li_113, li_114, li_115, li_116, li_117, li_118, li_119, li_120, li_128, li_142, li_255, li_320, li_781, li_852, li_999, li_1000, li_2000, li_3000, li_9999, li_12345, li_65536, li_1000000, li_252645135, li_858993459, li_1103515245, li_1431655765, sI, Int.add_zero]
  | m + 1, k, s, f + 1, k0, hk, hf => by
    rw [fX12_paths_L4]
    simp (disch := omega) only [gd_t, so_some, so_bind, so_gd, so_none, Option.bind_some, iI_add, iI_sub, iI_mul, iI_neg, iI_clamp, iI_nat, vin_i, iI_le, iI_lt, iI_eq, mn_i, mx_i, if_true, if_false, if_pos, if_neg, li_0, li_1, li_2, li_3, li_4, li_5, li_6, li_7, li_8, li_9, li_10, li_11, li_12, li_14, li_15, li_16, li_20, li_21, li_24, li_28, li_30, li_31, li_40, li_41, li_42, li_43, li_44, li_45, li_47, li_48, li_49, li_57, li_59, li_60, li_61, li_62, li_63, li_70, li_71, li_76, li_80, li_96, li_97, li_98, li_99, li_100, li_101, li_102, li_103, li_104, li_105, li_106, li_107, li_108, li_109, li_110, li_111, li_112, li_113, li_114, li_115, li_116, li_117, li_118, li_119, li_120, li_128, li_142, li_255, li_320, li_781, li_852, li_999, li_1000, li_2000, li_3000, li_9999, li_12345, li_65536, li_1000000, li_252645135, li_858993459, li_1103515245, li_1431655765, ha.at]
    rw [m_paths_L ha h7 m (k + 1) _ f (by omega) (by omega) (by omega), sI, Int.add_assoc]
theorem m_paths {A : Int → Int} {a : Nat → Int32} (ha : Arr 71 a A) {h : Int} (h0 : 0 ≤ h) (h7 : h ≤ 7) : fX12_paths 71 (iI h) a = some (iI (oPa h A)) := by
  have h := m_paths_L ha h7 h.toNat 0 0 FU (by omega) (by omega) (show _ < 4000 by omega)
  unfold fX12_paths
  rw [li_0, h, Option.bind_some, Int.zero_add]
  rfl
