theorem cpy_lt {n : Nat} {f g : Nat → Int32} {k : Nat} (h : k < n) : cpy n f g k = f k := if_pos h
theorem c_rule_0 {l : Int} (z : l = 0) (len drf pl lim : Int32) (draft code a : Nat → Int32) : So (fX11_rule len drf (iI l) pl lim draft code a) (fun o => o.1 = iI 0 ∧ o.2.1 = iI 0 ∧ o.2.2.2.1 = iI 0) := by
  subst z
  unfold fX11_rule fX4_read fX6_open fX6_isThrough fX6_empty fX4_read_J39
  simp only [Option.bind_some]
  rw [li_0, if_pos rfl, Option.bind_some, if_neg (by decide), Option.bind_some, so_some]
  exact ⟨rfl, rfl, rfl⟩
theorem c_rule_n {l m : Int} (hm : m = min l 40) (l0 : 0 < l) (l1 : l ≤ 1000) (len drf pl lim : Int32) (draft code a : Nat → Int32) {Q : (Int32 × Int32 × Int32 × Int32 × Int32 × Int32 × (Nat → Int32) × (Nat → Int32)) → Prop} {P : (Int32 × Int32 × (Nat → Int32) × Int32) → Prop}
    (C : So (fX4_readComparison (iI 0) draft (iI 0) (iI m) a (iI 0)) P)
    (h1 : ∀ o, P o → o.1 = iI 0 → Q (iI (-1) - o.2.2.2, len, o.2.1, iI 0, o.2.2.2, iI m, o.2.2.1, code))
    (h2 : ∀ o, P o → ¬ o.1 = iI 0 → ¬ o.2.2.2 = iI l → Q (iI (-1) - o.2.2.2, len, o.2.1, iI 0, o.2.2.2, iI m, o.2.2.1, code))
    (h3 : ∀ o, P o → ¬ o.1 = iI 0 → o.2.2.2 = iI l → Q (iI 0, o.2.1, o.2.1, iI 0, o.2.2.2, iI m, o.2.2.1, cpy 40 o.2.2.1 code)) :
    So (fX11_rule len drf (iI l) pl lim draft code a) Q := by
  obtain ⟨o, ho, p⟩ := C
  have e : mn (iI l) 40 = iI m := by rw [hm, li_40]; exact mn_i (by omega) (by omega) (by omega) (by omega)
  have n0 : ¬ (0 : Int32) = iI l := by rw [li_0, iI_eq (by omega) (by omega) (by omega) (by omega)]; omega
  have ho' : fX4_readComparison 0 draft 0 (iI m) a 0 = some o := ho
  unfold fX11_rule fX4_read fX6_open fX6_isThrough fX6_empty
  simp only [Option.bind_some, e]
  rw [if_neg n0, Option.bind_some, if_pos rfl, ho', Option.bind_some]
  by_cases q : o.1 = 0
  · rw [if_pos q]
    exact (so_some _ _).2 (h1 o p q)
  · rw [if_neg q]
    by_cases q2 : o.2.2.2 = iI l
    · rw [if_pos q2, Option.bind_some, if_neg (by decide)]
      exact (so_some _ _).2 (h3 o p q q2)
    · rw [if_neg q2, Option.bind_some, if_pos rfl]
      exact (so_some _ _).2 (h2 o p q q2)
theorem m_rule_0 {Tx : Int → Int} (hT : ∀ i, 0 ≤ Tx i ∧ Tx i ≤ 255) {l : Int} (z : l = 0) (many thr : Int32) (rr : Nat) (len top at' wrong size asked q1 q2 q3 q4 q5 q6 : Int32) {b : Nat → Int32} (hb : Arr 80 b (fun i => sb (Tx i))) (hold weather rule : Nat → Int32) :
    So (fX12_rule many (iI l) thr rr len top at' wrong size asked q1 q2 q3 q4 q5 q6 b hold weather rule) (fun o => o.1 = iI 0 ∧ o.2.1 = iI 0 ∧ o.2.2.2.2.2.2.2.2.1 = iI 0) := by
  subst z
  obtain ⟨ru, hru, -⟩ := m_ruleL (l := 0) hT hb (by omega) (by omega) 0 0 rule (by omega) (by omega) (fun x _ _ => by omega) FU (show 0 < 4000 by omega)
  have hru' : fX12_rule_L73 b (iI 0) FU 0 rule = some ru := hru
  unfold fX12_rule fX12_begin
  rw [Option.bind_some, if_pos (by decide), hru', Option.bind_some]
  exact (so_some _ _).2 ⟨rfl, rfl, rfl⟩
theorem m_rule_n {l : Int} (l0 : 0 < l) (l1 : l ≤ 1000) (many thr : Int32) (rr : Nat) (len top at' wrong size asked q1 q2 q3 q4 q5 q6 : Int32) (b hold weather rule : Nat → Int32) {Q : (Int32 × Int32 × Int32 × Nat × Int32 × Int32 × Int32 × Int32 × Int32 × Int32 × (Nat → Int32)) → Prop} {P : (Int32 × Int32 × Int32) → Prop}
    (M : So (fX12_held 80 many (iI l) (iI 40) (iI 0) (iI (-1)) (iI 0) q1 q2 q3 q4 q5 q6 b hold weather (iI 0)) P)
    (h1 : ∀ p, P p → ∃ w : Int, (p.2.2 = iI w ∨ (p.2.2 = iI (-1) ∧ p.2.1 = iI w ∧ w < l)) ∧ 0 ≤ w ∧ w ≤ 100 ∧ ∀ x1 x2 x3 x4 x5 x6, Q (iI (-1 - w), iI 0, x1, x2, x3, x4, x5, iI w, size, x6, rule)) :
    So (fX12_rule many (iI l) thr rr len top at' wrong size asked q1 q2 q3 q4 q5 q6 b hold weather rule) Q := by
  obtain ⟨p, hp, hP⟩ := M
  obtain ⟨w, hw, w0, w1, hQ⟩ := h1 p hP
  have nl : ¬ iI l ≤ 0 := by rw [li_0, iI_le (by omega) (by omega) (by omega) (by omega)]; omega
  have hp' : fX12_held 80 many (iI l) 40 0 (-1) 0 q1 q2 q3 q4 q5 q6 b hold weather 0 = some p := hp
  have ans : ((-1 : Int32) - iI w) = iI (-1 - w) := by rw [li_1, iI_neg, iI_sub]
  have fj : ∀ (x1 x2 x3 x4 x5 x6 : Int32), fX12_rule_J57 b (iI l) x1 x2 x3 x4 x5 (iI w) size x6 rule = some (iI (-1 - w), x1, x2, 1, x3, x4, x5, iI w, size, x6, rule) := by
    intro x1 x2 x3 x4 x5 x6
    have fi : fX12_fine (iI w) = some 0 := by
      unfold fX12_fine
      simp (disch := omega) only [gd_t, so_some, so_bind, so_gd, so_none, Option.bind_some, iI_add, iI_sub, iI_mul, iI_neg, iI_clamp, iI_nat, vin_i, iI_le, iI_lt, iI_eq, mn_i, mx_i, if_true, if_false, if_pos, if_neg, li_0, li_1, li_2, li_3, li_4, li_5, li_6, li_7, li_8, li_9, li_10, li_11, li_12, li_14, li_15, li_16, li_20, li_21, li_24, li_28, li_30, li_31, li_40, li_41, li_42, li_43, li_44, li_45, li_47, li_48, li_49, li_57, li_59, li_60, li_61, li_62, li_63, li_70, li_71, li_76, li_80, li_96, li_97, li_98, li_99, li_100, li_101, li_102, li_103, li_104, li_105, li_106, li_107, li_108, li_109, li_110, li_111, li_112, li_113, li_114, li_115, li_116, li_117, li_118, li_119, li_120, li_128, li_142, li_255, li_320, li_781, li_852, li_999, li_1000, li_2000, li_3000, li_9999, li_12345, li_65536, li_1000000, li_252645135, li_858993459, li_1103515245, li_1431655765]
    unfold fX12_rule_J57
    rw [fi, Option.bind_some, if_pos rfl, ans]
  unfold fX12_rule fX12_begin
  rw [Option.bind_some, if_neg nl]
  dsimp only
  rw [hp', Option.bind_some]
  rcases hw with hw | ⟨hw, ha, hl⟩
  · by_cases qa : iI l ≤ p.2.1
    · rw [if_pos qa, hw, fj]
      exact (so_some _ _).2 (hQ _ _ _ _ _ _)
    · rw [if_neg qa, hw, m_fault_f w0 (by omega), Option.bind_some, fj]
      exact (so_some _ _).2 (hQ _ _ _ _ _ _)
  · rw [ha, if_neg (by rw [iI_le (by omega) (by omega) (by omega) (by omega)]; omega), hw, m_fault_t, Option.bind_some, fj]
    exact (so_some _ _).2 (hQ _ _ _ _ _ _)
theorem m_rule_ok {Tx : Int → Int} (hT : ∀ i, 0 ≤ Tx i ∧ Tx i ≤ 255) {l : Int} (l0 : 0 < l) (l1 : l ≤ 40) (many thr : Int32) (rr : Nat) (len top at' wrong size asked q1 q2 q3 q4 q5 q6 : Int32) {b : Nat → Int32} (hb : Arr 80 b (fun i => sb (Tx i))) (hold weather rule : Nat → Int32) {v : Int32}
    (M : So (fX12_held 80 many (iI l) (iI 40) (iI 0) (iI (-1)) (iI 0) q1 q2 q3 q4 q5 q6 b hold weather (iI 0)) (fun p => p = (v, iI l, iI (-1)))) :
    So (fX12_rule many (iI l) thr rr len top at' wrong size asked q1 q2 q3 q4 q5 q6 b hold weather rule) (fun o => o.1 = iI 0 ∧ o.2.1 = iI 0 ∧ o.2.2.2.2.2.2.2.2.1 = iI l ∧ Arr l o.2.2.2.2.2.2.2.2.2.2 (fun i => sb (Tx i))) := by
  obtain ⟨p, hp, hP⟩ := M
  subst hP
  obtain ⟨ru, hru, hr⟩ := m_ruleL hT hb (by omega) l1 l.toNat 0 rule (by omega) (by omega) (fun x _ _ => by omega) FU (show _ < 4000 by omega)
  have hru' : fX12_rule_L73 b (iI l) FU 0 rule = some ru := hru
  have nl : ¬ iI l ≤ 0 := by rw [li_0, iI_le (by omega) (by omega) (by omega) (by omega)]; omega
  have hp' : fX12_held 80 many (iI l) 40 0 (-1) 0 q1 q2 q3 q4 q5 q6 b hold weather 0 = some (v, iI l, iI (-1)) := hp
  have fi : fX12_fine (iI (-1)) = some 1 := rfl
  unfold fX12_rule fX12_begin
  rw [Option.bind_some, if_neg nl]
  dsimp only
  rw [hp', Option.bind_some]
  dsimp only
  rw [if_pos (Int32.le_refl _)]
  unfold fX12_rule_J57
  rw [fi, Option.bind_some, if_neg (by decide), hru', Option.bind_some]
  exact (so_some _ _).2 ⟨rfl, rfl, rfl, hr⟩
