/-! the reference's look at all plans -/
abbrev cnD (ho hs d : Int) : Prop := d = 14 ∨ (d < 2 * ho ∧ (hs = -1 ∨ d / 2 = hs))
theorem fol_can {E : EN} (G : EnG E) {h hs : Int} (h1 : 1 ≤ h) : ∀ (r : List Int) (t u : WS), GT E t → (∀ d, d ∈ r → 0 ≤ d ∧ d ≤ 14) → fol E h hs r t = some u → ∀ d, d ∈ r → cnD E.1 hs d
  | [], _, _, _, _, _, d, hd => by cases hd
  | s :: r, t, u, g, hr, hf, d, hd => by
    have sb := hr s (List.mem_cons_self ..)
    rw [fol] at hf
    split at hf
    · rename_i hc
      rcases List.mem_cons.1 hd with rfl | hd
      · by_cases q : d = 14
        · exact Or.inl q
        · have b := cho_s g sb.1 sb.2 hc q
          rcases hc with z | ⟨-, z⟩
          · exact absurd z q
          · exact Or.inr ⟨b, z⟩
      · exact fol_can G h1 r _ u (pst_ok G h1 g sb.1 sb.2 hc).1 (fun d hd => hr d (List.mem_cons_of_mem _ hd)) hf d hd
    · cases hf
theorem m_L11 {n : Int} (n0 : 0 ≤ n) (n1 : n ≤ 3) : fX12_bestBy_L11 (iI n) FU 1 0 = some (iI ((15 ^ n.toNat : Nat) : Int)) := by
  have e : n = 0 ∨ n = 1 ∨ n = 2 ∨ n = 3 := by omega
  rcases e with rfl | rfl | rfl | rfl <;> rfl
def P52 (ho hs : Int) (m : Nat) (v cn : Int) (plan : Nat → Int32) (o : Int32 × (Nat → Int32)) : Prop := (∃ c : Int, o.1 = iI c ∧ ((c = 1 ∧ cn = 1 ∧ ∀ d, d ∈ dgs m v → cnD ho hs d) ∨ (c = 0 ∧ (cn = 0 ∨ ∃ d, d ∈ dgs m v ∧ ¬ cnD ho hs d)))) ∧ Re o.2 (dgs m v) ∧ ∀ j : Nat, m ≤ j → o.2 j = plan j
theorem m_L52 {ho hs : Int} (h0 : 0 ≤ ho) (h7 : ho ≤ 7) (s0 : -1 ≤ hs) (s1 : hs ≤ 7) : ∀ (m : Nat) (v : Int) (cn : Int) (plan : Nat → Int32) (f : Nat), m ≤ 3 → 0 ≤ v → v < 4000 → (cn = 0 ∨ cn = 1) → m < f →
    So (fX12_bestBy_L52 (iI ho) (iI hs) f (iI v) (iI cn) (iI ((m : Int) - 1)) plan) (P52 ho hs m v cn plan)
  | 0, v, cn, plan, f, _, v0, v1, hc, hf => by
    obtain ⟨f, rfl⟩ : ∃ g, f = g + 1 := ⟨f - 1, by omega⟩
    rw [fX12_bestBy_L52]
    simp (disch := omega) only [gd_t, so_some, so_bind, so_gd, so_none, Option.bind_some, iI_add, iI_sub, iI_mul, iI_neg, iI_clamp, iI_nat, vin_i, iI_le, iI_lt, iI_eq, mn_i, mx_i, if_true, if_false, if_pos, if_neg, li_0, li_1, li_2, li_3, li_4, li_5, li_6, li_7, li_8, li_9, li_10, li_11, li_12, li_14, li_15, li_16, li_20, li_21, li_24, li_28, li_30, li_31, li_40, li_41, li_42, li_43, li_44, li_45, li_47, li_48, li_49, li_57, li_59, li_60, li_61, li_62, li_63, li_70, li_71, li_76, li_80, li_96, li_97, li_98, li_99, li_100, li_101, li_102, li_103, li_104, li_105, li_106, li_107, li_108, li_109, li_110, li_111, li_112, li_113, li_114, li_115, li_116, li_117, li_118, li_119, li_120, li_128, li_142, li_255, li_320, li_781, li_852, li_999, li_1000, li_2000, li_3000, li_9999, li_12345, li_65536, li_1000000, li_252645135, li_858993459, li_1103515245, li_1431655765, Int.natCast_zero]
    refine ⟨⟨cn, rfl, ?_⟩, (fun j x hx => by cases hx), (fun _ _ => (by first | rfl | trivial))⟩
    rcases hc with rfl | rfl
    · exact Or.inr ⟨rfl, Or.inl rfl⟩
    · exact Or.inl ⟨rfl, rfl, fun d hd => by cases hd⟩
  | m + 1, v, cn, plan, f, m3, v0, v1, hc, hf => by
    obtain ⟨f, rfl⟩ : ∃ g, f = g + 1 := ⟨f - 1, by omega⟩
    have em : ((m + 1 : Nat) : Int) - 1 = (m : Int) := by omega
    have r15 : rem (iI v) (iI 15) = iI (v % 15) := iI_rem v0 (by omega) (by omega) (by omega)
    have d15 : iI v / iI 15 = iI (v / 15) := iI_div v0 (by omega) (by omega) (by omega)
    have db : 0 ≤ v % 15 ∧ v % 15 ≤ 14 := by omega
    have d2 : iI (v % 15) / iI 2 = iI (v % 15 / 2) := iI_div2 (by omega) (by omega)
    have rcc : ∀ cn', (cn' = 0 ∨ cn' = 1) → So (fX12_bestBy_L52 (iI ho) (iI hs) f (iI (v / 15)) (iI cn') (iI ((m : Int) - 1)) (upd plan m (iI (v % 15)))) (P52 ho hs m (v / 15) cn' (upd plan m (iI (v % 15)))) :=
      fun cn' hc' => m_L52 h0 h7 s0 s1 m (v / 15) cn' _ f (by omega) (by omega) (by omega) hc' (by omega)
    have fin : ∀ cn', (cn' = 0 ∨ cn' = 1) → (cn' = 1 ↔ cn = 1 ∧ cnD ho hs (v % 15)) → So (fX12_bestBy_L52 (iI ho) (iI hs) f (iI (v / 15)) (iI cn') (iI ((m : Int) - 1)) (upd plan m (iI (v % 15)))) (P52 ho hs (m + 1) v cn plan) := by
      intro cn' hc' hi
      refine so_mono (rcc cn' hc') ?_
      rintro o ⟨⟨c, o1, o2⟩, o3, o4⟩
      refine ⟨⟨c, o1, ?_⟩, fun j x hx => ?_, fun j hj => ?_⟩
      · rcases o2 with ⟨rfl, z, hd⟩ | ⟨rfl, z⟩
        · have w := hi.1 z
          refine Or.inl ⟨rfl, w.1, fun d hd' => ?_⟩
          rw [dgs] at hd'
          rcases List.mem_append.1 hd' with hd' | hd'
          · exact hd d hd'
          · rw [List.mem_singleton] at hd'
            rw [hd']
            exact w.2
        · refine Or.inr ⟨rfl, ?_⟩
          rcases z with z | ⟨d, d1, d2⟩
          · by_cases w : cn = 1
            · right
              refine ⟨v % 15, by rw [dgs]; exact List.mem_append.2 (Or.inr (List.mem_singleton.2 rfl)), fun y => ?_⟩
              have := hi.2 ⟨w, y⟩
              omega
            · left
              omega
          · exact Or.inr ⟨d, by rw [dgs]; exact List.mem_append.2 (Or.inl d1), d2⟩
      · rw [dgs] at hx
        by_cases q : j < m
        · rw [List.getElem?_append_left (by rw [dgs_len]; exact q)] at hx
          exact o3 j x hx
        · rw [List.getElem?_append_right (by rw [dgs_len]; omega), dgs_len] at hx
          have jm : j = m := by
            by_cases w : j = m
            · exact w
            · rw [List.getElem?_eq_none (by show 1 ≤ j - m; omega)] at hx
              cases hx
          subst jm
          rw [Nat.sub_self] at hx
          have : v % 15 = x := by simpa using hx
          rw [o4 j (Nat.le_refl _), upd_s, this]
      · rw [o4 j (by omega), upd_o _ _ (by omega)]
    rw [fX12_bestBy_L52, em]
    rcases hc with rfl | rfl
    · have := fin 0 (Or.inl rfl) ⟨fun z => by omega, fun z => by omega⟩
      simp (disch := omega) only [gd_t, so_some, so_bind, so_gd, so_none, Option.bind_some, iI_add, iI_sub, iI_mul, iI_neg, iI_clamp, iI_nat, vin_i, iI_le, iI_lt, iI_eq, mn_i, mx_i, if_true, if_false, if_pos, if_neg, li_0, li_1, li_2, li_3, li_4, li_5, li_6, li_7, li_8, li_9, li_10, li_11, li_12, li_14, li_15, li_16, li_20, li_21, li_24, li_28, li_30, li_31, li_40, li_41, li_42, li_43, li_44, li_45, li_47, li_48, li_49, li_57, li_59, li_60, li_61, li_62, li_63, li_70, li_71, li_76, li_80, li_96, li_97, li_98, li_99, li_100, li_101, li_102, li_103, li_104, li_105, li_106, li_107, li_108, li_109, li_110, li_111, li_112, li_113, li_114, li_115, li_116, li_117, li_118, li_119, li_120, li_128, li_142, li_255, li_320, li_781, li_852, li_999, li_1000, li_2000, li_3000, li_9999, li_12345, li_65536, li_1000000, li_252645135, li_858993459, li_1103515245, li_1431655765, r15, d15, Int.toNat_natCast]
      rw [show ((m : Int) + -1) = (m : Int) - 1 by omega]
      exact this
    · by_cases q : v % 15 = 14
      · have := fin 1 (Or.inr rfl) ⟨fun _ => ⟨rfl, Or.inl q⟩, fun _ => rfl⟩
        simp (disch := omega) only [gd_t, so_some, so_bind, so_gd, so_none, Option.bind_some, iI_add, iI_sub, iI_mul, iI_neg, iI_clamp, iI_nat, vin_i, iI_le, iI_lt, iI_eq, mn_i, mx_i, if_true, if_false, if_pos, if_neg, li_0, li_1, li_2, li_3, li_4, li_5, li_6, li_7, li_8, li_9, li_10, li_11, li_12, li_14, li_15, li_16, li_20, li_21, li_24, li_28, li_30, li_31, li_40, li_41, li_42, li_43, li_44, li_45, li_47, li_48, li_49, li_57, li_59, li_60, li_61, li_62, li_63, li_70, li_71, li_76, li_80, li_96, li_97, li_98, li_99, li_100, li_101, li_102, li_103, li_104, li_105, li_106, li_107, li_108, li_109, li_110, li_111, li_112, li_113, li_114, li_115, li_116, li_117, li_118, li_119, li_120, li_128, li_142, li_255, li_320, li_781, li_852, li_999, li_1000, li_2000, li_3000, li_9999, li_12345, li_65536, li_1000000, li_252645135, li_858993459, li_1103515245, li_1431655765, r15, d15, Int.toNat_natCast, upd_s]
        rw [show ((m : Int) + -1) = (m : Int) - 1 by omega]
        exact this
      · by_cases q2 : v % 15 < 2 * ho
        · by_cases q3 : hs = -1
          · have := fin 1 (Or.inr rfl) ⟨fun _ => ⟨rfl, Or.inr ⟨q2, Or.inl q3⟩⟩, fun _ => rfl⟩
            simp (disch := omega) only [gd_t, so_some, so_bind, so_gd, so_none, Option.bind_some, iI_add, iI_sub, iI_mul, iI_neg, iI_clamp, iI_nat, vin_i, iI_le, iI_lt, iI_eq, mn_i, mx_i, if_true, if_false, if_pos, if_neg, li_0, li_1, li_2, li_3, li_4, li_5, li_6, li_7, li_8, li_9, li_10, li_11, li_12, li_14, li_15, li_16, li_20, li_21, li_24, li_28, li_30, li_31, li_40, li_41, li_42, li_43, li_44, li_45, li_47, li_48, li_49, li_57, li_59, li_60, li_61, li_62, li_63, li_70, li_71, li_76, li_80, li_96, li_97, li_98, li_99, li_100, li_101, li_102, li_103, li_104, li_105, li_106, li_107, li_108, li_109, li_110, li_111, li_112, li_113, li_114, li_115, li_116, li_117, li_118, li_119, li_120, li_128, li_142, li_255, li_320, li_781, li_852, li_999, li_1000, li_2000, li_3000, li_9999, li_12345, li_65536, li_1000000, li_252645135, li_858993459, li_1103515245, li_1431655765, r15, d15, Int.toNat_natCast, upd_s, isS_t]
            rw [show ((m : Int) + -1) = (m : Int) - 1 by omega]
            exact this
          · by_cases q4 : v % 15 / 2 = hs
            · have := fin 1 (Or.inr rfl) ⟨fun _ => ⟨rfl, Or.inr ⟨q2, Or.inr q4⟩⟩, fun _ => rfl⟩
              simp (disch := omega) only [gd_t, so_some, so_bind, so_gd, so_none, Option.bind_some, iI_add, iI_sub, iI_mul, iI_neg, iI_clamp, iI_nat, vin_i, iI_le, iI_lt, iI_eq, mn_i, mx_i, if_true, if_false, if_pos, if_neg, li_0, li_1, li_2, li_3, li_4, li_5, li_6, li_7, li_8, li_9, li_10, li_11, li_12, li_14, li_15, li_16, li_20, li_21, li_24, li_28, li_30, li_31, li_40, li_41, li_42, li_43, li_44, li_45, li_47, li_48, li_49, li_57, li_59, li_60, li_61, li_62, li_63, li_70, li_71, li_76, li_80, li_96, li_97, li_98, li_99, li_100, li_101, li_102, li_103, li_104, li_105, li_106, li_107, li_108, li_109, li_110, li_111, li_112, li_113, li_114, li_115, li_116, li_117, li_118, li_119, li_120, li_128, li_142, li_255, li_320, li_781, li_852, li_999, li_1000, li_2000, li_3000, li_9999, li_12345, li_65536, li_1000000, li_252645135, li_858993459, li_1103515245, li_1431655765, r15, d15, d2, Int.toNat_natCast, upd_s, isS_t]
              rw [show ((m : Int) + -1) = (m : Int) - 1 by omega]
              exact this
            · have := fin 0 (Or.inl rfl) ⟨fun z => by omega, fun z => absurd z.2 (by omega)⟩
              simp (disch := omega) only [gd_t, so_some, so_bind, so_gd, so_none, Option.bind_some, iI_add, iI_sub, iI_mul, iI_neg, iI_clamp, iI_nat, vin_i, iI_le, iI_lt, iI_eq, mn_i, mx_i, if_true, if_false, if_pos, if_neg, li_0, li_1, li_2, li_3, li_4, li_5, li_6, li_7, li_8, li_9, li_10, li_11, li_12, li_14, li_15, li_16, li_20, li_21, li_24, li_28, li_30, li_31, li_40, li_41, li_42, li_43, li_44, li_45, li_47, li_48, li_49, li_57, li_59, li_60, li_61, li_62, li_63, li_70, li_71, li_76, li_80, li_96, li_97, li_98, li_99, li_100, li_101, li_102, li_103, li_104, li_105, li_106, li_107, li_108, li_109, li_110, li_111, li_112, li_113, li_114, li_115, li_116, li_117, li_118, li_119, li_120, li_128, li_142, li_255, li_320, li_781, li_852, li_999, li_1000, li_2000, li_3000, li_9999, li_12345, li_65536, li_1000000, li_252645135, li_858993459, li_1103515245, li_1431655765, r15, d15, d2, Int.toNat_natCast, upd_s, isS_t]
              rw [show ((m : Int) + -1) = (m : Int) - 1 by omega]
              exact this
        · have := fin 0 (Or.inl rfl) ⟨fun z => by omega, fun z => absurd z.2 (by omega)⟩
          simp (disch := omega) only [gd_t, so_some, so_bind, so_gd, so_none, Option.bind_some, iI_add, iI_sub, iI_mul, iI_neg, iI_clamp, iI_nat, vin_i, iI_le, iI_lt, iI_eq, mn_i, mx_i, if_true, if_false, if_pos, if_neg, li_0, li_1, li_2, li_3, li_4, li_5, li_6, li_7, li_8, li_9, li_10, li_11, li_12, li_14, li_15, li_16, li_20, li_21, li_24, li_28, li_30, li_31, li_40, li_41, li_42, li_43, li_44, li_45, li_47, li_48, li_49, li_57, li_59, li_60, li_61, li_62, li_63, li_70, li_71, li_76, li_80, li_96, li_97, li_98, li_99, li_100, li_101, li_102, li_103, li_104, li_105, li_106, li_107, li_108, li_109, li_110, li_111, li_112, li_113, li_114, li_115, li_116, li_117, li_118, li_119, li_120, li_128, li_142, li_255, li_320, li_781, li_852, li_999, li_1000, li_2000, li_3000, li_9999, li_12345, li_65536, li_1000000, li_252645135, li_858993459, li_1103515245, li_1431655765, r15, d15, Int.toNat_natCast, upd_s, isS_f]
          rw [show ((m : Int) + -1) = (m : Int) - 1 by omega]
          exact this
theorem m_L19 {E : EN} (G : EnG E) {ho many size : Int32} {hold below weather rule : Nat → Int32} (M : EnM E ho many size hold below weather rule) {h hs n : Int} (h1 : 1 ≤ h) (h2 : h ≤ 99) (n3 : n ≤ 3) {plan : Nat → Int32} :
    ∀ (r : List Int) (i : Int) (x : MW) (f : Nat) {sm on si : Int32} {owedBy a : Nat → Int32} (rr : Nat) (len top at' wrong asked i1 i2 i3 i4 i5 i6 : Int32), GT E x.1 → x.1.1 70 + r.length < 2147483648 → 0 ≤ i → i + r.length = n → r.length < f → (∀ (j : Nat) (d : Int), r[j]? = some d → plan (i.toNat + j) = iI d) → (∀ d, d ∈ r → 0 ≤ d ∧ d ≤ 14) → (∀ d, d ∈ r → cnD E.1 hs d) → Mk x sm on si owedBy a →
      So (fX12_owedByPlan_L19 ho many size plan weather hold below rule (iI n) (iI h) f (iI i) rr len top at' wrong asked i1 i2 i3 i4 i5 i6 sm on si owedBy a)
        (fun o => match fol E h hs r x.1 with
          | none => ∃ z, o = Sum.inr (iI 1000000, z)
          | some t => ∃ z, o = Sum.inl z ∧ z.2.2.2.2.2.2.2.2.2.2.2.2.2.1 = iI t.2.1 ∧ Arr 7 z.2.2.2.2.2.2.2.2.2.2.2.2.2.2.2.1 t.2.2)
  | [], i, x, f, sm, on, si, owedBy, a, rr, len, top, at', wrong, asked, i1, i2, i3, i4, i5, i6, g, hn, i0, ir, hf, hp, hr, hcn, K => by
    obtain ⟨f, rfl⟩ : ∃ g, f = g + 1 := ⟨f - 1, by omega⟩
    have ir' : i = n := by
      have : (([] : List Int).length : Int) = 0 := rfl
      omega
    rw [fX12_owedByPlan_L19]
    simp (disch := omega) only [gd_t, so_some, so_bind, so_gd, so_none, Option.bind_some, iI_add, iI_sub, iI_mul, iI_neg, iI_clamp, iI_nat, vin_i, iI_le, iI_lt, iI_eq, mn_i, mx_i, if_true, if_false, if_pos, if_neg, li_0, li_1, li_2, li_3, li_4, li_5, li_6, li_7, li_8, li_9, li_10, li_11, li_12, li_14, li_15, li_16, li_20, li_21, li_24, li_28, li_30, li_31, li_40, li_41, li_42, li_43, li_44, li_45, li_47, li_48, li_49, li_57, li_59, li_60, li_61, li_62, li_63, li_70, li_71, li_76, li_80, li_96, li_97, li_98, li_99, li_100, li_101, li_102, li_103, li_104, li_105, li_106, li_107, li_108, li_109, li_110, li_111, li_112, li_113, li_114, li_115, li_116, li_117, li_118, li_119, li_120, li_128, li_142, li_255, li_320, li_781, li_852, li_999, li_1000, li_2000, li_3000, li_9999, li_12345, li_65536, li_1000000, li_252645135, li_858993459, li_1103515245, li_1431655765]
    exact ⟨_, rfl, K.2.1, K.2.2.2.1⟩
  | s :: r, i, x, f, sm, on, si, owedBy, a, rr, len, top, at', wrong, asked, i1, i2, i3, i4, i5, i6, g, hn, i0, ir, hf, hp, hr, hcn, K => by
    obtain ⟨f, rfl⟩ : ∃ g, f = g + 1 := ⟨f - 1, by omega⟩
    have hl : ((s :: r).length : Int) = (r.length : Int) + 1 := by show ((r.length + 1 : Nat) : Int) = _; omega
    have hl' : (s :: r).length = r.length + 1 := rfl
    have sb := hr s (List.mem_cons_self ..)
    have sc := hcn s (List.mem_cons_self ..)
    have ps : plan i.toNat = iI s := hp 0 s rfl
    have ht : ∀ (j : Nat) (d : Int), r[j]? = some d → plan ((i + 1).toNat + j) = iI d := fun j d hd => by
      have := hp (j + 1) d (by simpa using hd)
      rw [show i.toNat + (j + 1) = (i + 1).toNat + j by omega] at this
      exact this
    have hr2 : ∀ d, d ∈ r → 0 ≤ d ∧ d ≤ 14 := fun d hd => hr d (List.mem_cons_of_mem _ hd)
    have hcn2 : ∀ d, d ∈ r → cnD E.1 hs d := fun d hd => hcn d (List.mem_cons_of_mem _ hd)
    rw [fX12_owedByPlan_L19, fol]
    by_cases q : s = 14
    · have hc : cho hs x.1 s := Or.inl q
      have gp := pst_ok G h1 g sb.1 sb.2 hc
      have ex : (mdy E x).1 = pst E h s x.1 := by
        unfold pst swp
        rw [if_pos q]
        rfl
      rw [if_pos hc]
      simp (disch := omega) only [gd_t, so_some, so_bind, so_gd, so_none, Option.bind_some, iI_add, iI_sub, iI_mul, iI_neg, iI_clamp, iI_nat, vin_i, iI_le, iI_lt, iI_eq, mn_i, mx_i, if_true, if_false, if_pos, if_neg, li_0, li_1, li_2, li_3, li_4, li_5, li_6, li_7, li_8, li_9, li_10, li_11, li_12, li_14, li_15, li_16, li_20, li_21, li_24, li_28, li_30, li_31, li_40, li_41, li_42, li_43, li_44, li_45, li_47, li_48, li_49, li_57, li_59, li_60, li_61, li_62, li_63, li_70, li_71, li_76, li_80, li_96, li_97, li_98, li_99, li_100, li_101, li_102, li_103, li_104, li_105, li_106, li_107, li_108, li_109, li_110, li_111, li_112, li_113, li_114, li_115, li_116, li_117, li_118, li_119, li_120, li_128, li_142, li_255, li_320, li_781, li_852, li_999, li_1000, li_2000, li_3000, li_9999, li_12345, li_65536, li_1000000, li_252645135, li_858993459, li_1103515245, li_1431655765, ps]
      refine so_mono (m_goDay G M g.1 (by omega) K rr len top at' wrong asked i1 i2 i3 i4 i5 i6) ?_
      intro o ho
      have := m_L19 G M h1 h2 n3 r (i + 1) (mdy E x) f o.1 o.2.1 o.2.2.1 o.2.2.2.1 o.2.2.2.2.1 o.2.2.2.2.2.1 o.2.2.2.2.2.2.1 o.2.2.2.2.2.2.2.1 o.2.2.2.2.2.2.2.2.1 o.2.2.2.2.2.2.2.2.2.1 o.2.2.2.2.2.2.2.2.2.2.1 o.2.2.2.2.2.2.2.2.2.2.2.1 (by rw [ex]; exact gp.1) (by rw [ex, gp.2]; omega) (by omega) (by omega) (by omega) ht hr2 hcn2 ho
      rw [ex] at this
      exact this
    · have s14 : s < 14 := by omega
      have hk2 := K.2.2.2.2
      have sa := g.1.1 s sb.1 (by omega)
      by_cases q0 : x.1.1 s = 0
      · have hc : ¬ cho hs x.1 s := by
          rintro (z | ⟨z, -⟩)
          · exact q z
          · omega
        rw [if_neg hc]
        simp (disch := omega) only [gd_t, so_some, so_bind, so_gd, so_none, Option.bind_some, iI_add, iI_sub, iI_mul, iI_neg, iI_clamp, iI_nat, vin_i, iI_le, iI_lt, iI_eq, mn_i, mx_i, if_true, if_false, if_pos, if_neg, li_0, li_1, li_2, li_3, li_4, li_5, li_6, li_7, li_8, li_9, li_10, li_11, li_12, li_14, li_15, li_16, li_20, li_21, li_24, li_28, li_30, li_31, li_40, li_41, li_42, li_43, li_44, li_45, li_47, li_48, li_49, li_57, li_59, li_60, li_61, li_62, li_63, li_70, li_71, li_76, li_80, li_96, li_97, li_98, li_99, li_100, li_101, li_102, li_103, li_104, li_105, li_106, li_107, li_108, li_109, li_110, li_111, li_112, li_113, li_114, li_115, li_116, li_117, li_118, li_119, li_120, li_128, li_142, li_255, li_320, li_781, li_852, li_999, li_1000, li_2000, li_3000, li_9999, li_12345, li_65536, li_1000000, li_252645135, li_858993459, li_1103515245, li_1431655765, ps, hk2.at]
        exact ⟨_, rfl⟩
      · have hc : cho hs x.1 s := by
          rcases sc with z | ⟨-, z⟩
          · exact absurd z q
          · exact Or.inr ⟨by omega, z⟩
        have gp := pst_ok G h1 g sb.1 sb.2 hc
        have gs := swp_ok G h1 g sb.1 sb.2 hc
        rw [if_pos hc]
        have es : swp h s x.1 = (swA x.1.1 s (min h (x.1.1 s)), x.1.2) := by unfold swp; rw [if_neg q]
        rw [es] at gs
        have ex : (mdy E ((swA x.1.1 s (min h (x.1.1 s)), x.1.2), x.2)).1 = pst E h s x.1 := by
          unfold pst
          rw [es]
          rfl
        simp (disch := omega) only [gd_t, so_some, so_bind, so_gd, so_none, Option.bind_some, iI_add, iI_sub, iI_mul, iI_neg, iI_clamp, iI_nat, vin_i, iI_le, iI_lt, iI_eq, mn_i, mx_i, if_true, if_false, if_pos, if_neg, li_0, li_1, li_2, li_3, li_4, li_5, li_6, li_7, li_8, li_9, li_10, li_11, li_12, li_14, li_15, li_16, li_20, li_21, li_24, li_28, li_30, li_31, li_40, li_41, li_42, li_43, li_44, li_45, li_47, li_48, li_49, li_57, li_59, li_60, li_61, li_62, li_63, li_70, li_71, li_76, li_80, li_96, li_97, li_98, li_99, li_100, li_101, li_102, li_103, li_104, li_105, li_106, li_107, li_108, li_109, li_110, li_111, li_112, li_113, li_114, li_115, li_116, li_117, li_118, li_119, li_120, li_128, li_142, li_255, li_320, li_781, li_852, li_999, li_1000, li_2000, li_3000, li_9999, li_12345, li_65536, li_1000000, li_252645135, li_858993459, li_1103515245, li_1431655765, ps, hk2.at]
        refine so_mono (m_sweeps g.1 hk2 sb.1 s14 (by omega) (by omega)) ?_
        intro a' ha'
        have K2 : Mk ((swA x.1.1 s (min h (x.1.1 s)), x.1.2), x.2) sm on si owedBy a' := ⟨K.1, K.2.1, K.2.2.1, K.2.2.2.1, ha'⟩
        refine so_mono (m_goDay G M gs.1.1 (by rw [gs.2.1]; omega) K2 rr len top at' wrong asked i1 i2 i3 i4 i5 i6) ?_
        intro o ho
        have := m_L19 G M h1 h2 n3 r (i + 1) (mdy E ((swA x.1.1 s (min h (x.1.1 s)), x.1.2), x.2)) f o.1 o.2.1 o.2.2.1 o.2.2.2.1 o.2.2.2.2.1 o.2.2.2.2.2.1 o.2.2.2.2.2.2.1 o.2.2.2.2.2.2.2.1 o.2.2.2.2.2.2.2.2.1 o.2.2.2.2.2.2.2.2.2.1 o.2.2.2.2.2.2.2.2.2.2.1 o.2.2.2.2.2.2.2.2.2.2.2.1 (by rw [ex]; exact gp.1) (by rw [ex, gp.2]; omega) (by omega) (by omega) (by omega) ht hr2 hcn2 ho
        rw [ex] at this
        exact this
theorem m_L172 {n : Int} (n3 : n ≤ 3) {plan : Nat → Int32} {l : List Int} (hl : (l.length : Int) = n) (hp : Re plan l) : ∀ (m : Nat) (k : Int) (bp : Nat → Int32) (f : Nat), 0 ≤ k → k + m = n → m < f → (∀ (j : Nat) (x : Int), (j : Int) < k → l[j]? = some x → bp j = iI x) → So (fX12_bestBy_L172 (iI n) plan f (iI k) bp) (fun o => Re o l)
  | 0, k, bp, f, k0, km, hf, hb => by
    obtain ⟨f, rfl⟩ : ∃ g, f = g + 1 := ⟨f - 1, by omega⟩
    rw [fX12_bestBy_L172]
    simp (disch := omega) only [gd_t, so_some, so_bind, so_gd, so_none, Option.bind_some, iI_add, iI_sub, iI_mul, iI_neg, iI_clamp, iI_nat, vin_i, iI_le, iI_lt, iI_eq, mn_i, mx_i, if_true, if_false, if_pos, if_neg, li_0, li_1, li_2, li_3, li_4, li_5, li_6, li_7, li_8, li_9, li_10, li_11, li_12, li_14, li_15, li_16, li_20, li_21, li_24, li_28, li_30, li_31, li_40, li_41, li_42, li_43, li_44, li_45, li_47, li_48, li_49, li_57, li_59, li_60, li_61, li_62, li_63, li_70, li_71, li_76, li_80, li_96, li_97, li_98, li_99, li_100, li_101, li_102, li_103, li_104, li_105, li_106, li_107, li_108, li_109, li_110, li_111, li_112, li_113, li_114, li_115, li_116, li_117, li_118, li_119, li_120, li_128, li_142, li_255, li_320, li_781, li_852, li_999, li_1000, li_2000, li_3000, li_9999, li_12345, li_65536, li_1000000, li_252645135, li_858993459, li_1103515245, li_1431655765]
    intro j x hx
    have hj : j < l.length := by
      by_cases q : j < l.length
      · exact q
      · rw [List.getElem?_eq_none (by omega)] at hx
        cases hx
    exact hb j x (by omega) hx
  | m + 1, k, bp, f, k0, km, hf, hb => by
    obtain ⟨f, rfl⟩ : ∃ g, f = g + 1 := ⟨f - 1, by omega⟩
    rw [fX12_bestBy_L172]
    simp (disch := omega) only [gd_t, so_some, so_bind, so_gd, so_none, Option.bind_some, iI_add, iI_sub, iI_mul, iI_neg, iI_clamp, iI_nat, vin_i, iI_le, iI_lt, iI_eq, mn_i, mx_i, if_true, if_false, if_pos, if_neg, li_0, li_1, li_2, li_3, li_4, li_5, li_6, li_7, li_8, li_9, li_10, li_11, li_12, li_14, li_15, li_16, li_20, li_21, li_24, li_28, li_30, li_31, li_40, li_41, li_42, li_43, li_44, li_45, li_47, li_48, li_49, li_57, li_59, li_60, li_61, li_62, li_63, li_70, li_71, li_76, li_80, li_96, li_97, li_98, li_99, li_100, li_101, li_102, li_103, li_104, li_105, li_106, li_107, li_108, li_109, li_110, li_111, li_112, li_113, li_114, li_115, li_116, li_117, li_118, li_119, li_120, li_128, li_142, li_255, li_320, li_781, li_852, li_999, li_1000, li_2000, li_3000, li_9999, li_12345, li_65536, li_1000000, li_252645135, li_858993459, li_1103515245, li_1431655765]
    refine m_L172 n3 hl hp m (k + 1) _ f (by omega) (by omega) (by omega) ?_
    intro j x hj hx
    by_cases q : j = k.toNat
    · rw [q, upd_s, ← q]
      exact hp j x hx
    · rw [upd_o _ _ q]
      exact hb j x (by omega) hx
theorem m_owedBy {E : EN} (G : EnG E) {ho many size : Int32} {hold below weather rule : Nat → Int32} (M : EnM E ho many size hold below weather rule) {A : Int → Int} (g : GT E (ws0 A)) (hA : A 70 + 3 < 2147483648) {now : Nat → Int32} (hN : Arr 71 now A) {h hs n : Int} (h1 : 1 ≤ h) (h2 : h ≤ 99) (n3 : n ≤ 3) (s0 : -1 ≤ hs) (s1 : hs < 7) {plan : Nat → Int32} {l : List Int} (hl : (l.length : Int) = n) (hp : Re plan l) (hr : ∀ d, d ∈ l → 0 ≤ d ∧ d ≤ 14) (hcn : ∀ d, d ∈ l → cnD E.1 hs d)
    (rr : Nat) (len top at' wrong asked i1 i2 i3 i4 i5 i6 sm on si : Int32) (owedBy th : Nat → Int32) :
    So (fX12_owedByPlan ho many rr len top at' wrong size asked i1 i2 i3 i4 i5 i6 sm on si owedBy now th plan weather hold below rule (iI n) (iI h) (iI hs))
      (fun o => match fol E h hs l (ws0 A) with
        | none => o.1 = iI 1000000
        | some t => o.1 = iI (cst hs t)) := by
  unfold fX12_owedByPlan
  rw [so_bind]
  refine so_mono (m_beginCount sm on si owedBy) ?_
  rintro o1 ⟨a1, a2, a3, a4⟩
  rw [so_bind]
  refine so_mono (m_lay0 (b := th) hN) ?_
  intro o3 a5
  have hlf : l.length < FU := by show _ < 4000; omega
  have K : Mk (mw0 A) o1.1 o1.2.1 o1.2.2.1 o1.2.2.2 o3 := ⟨a1, a2, a3, a4, a5⟩
  have L := m_L19 (plan := plan) G M h1 h2 n3 l 0 (mw0 A) FU rr len top at' wrong asked i1 i2 i3 i4 i5 i6 g (by show A 70 + _ < _; omega) (by omega) (by omega) hlf (fun j d hd => by rw [show (0 : Int).toNat + j = j by omega]; exact hp j d hd) hr hcn K
  rw [so_bind]
  refine so_mono L ?_
  intro o ho
  show So _ _
  rw [show (mw0 A).1 = ws0 A from rfl] at ho
  cases hf : fol E h hs l (ws0 A) with
  | none =>
    rw [hf] at ho
    obtain ⟨z, rfl⟩ := ho
    dsimp only [Sum.elim_inr]
    rw [so_some]
  | some t =>
    rw [hf] at ho
    obtain ⟨z, rfl, z1, z2⟩ := ho
    dsimp only [Sum.elim_inl]
    unfold cst
    by_cases q : hs = -1
    · rw [if_pos q]
      simp (disch := omega) only [gd_t, so_some, so_bind, so_gd, so_none, Option.bind_some, iI_add, iI_sub, iI_mul, iI_neg, iI_clamp, iI_nat, vin_i, iI_le, iI_lt, iI_eq, mn_i, mx_i, if_true, if_false, if_pos, if_neg, li_0, li_1, li_2, li_3, li_4, li_5, li_6, li_7, li_8, li_9, li_10, li_11, li_12, li_14, li_15, li_16, li_20, li_21, li_24, li_28, li_30, li_31, li_40, li_41, li_42, li_43, li_44, li_45, li_47, li_48, li_49, li_57, li_59, li_60, li_61, li_62, li_63, li_70, li_71, li_76, li_80, li_96, li_97, li_98, li_99, li_100, li_101, li_102, li_103, li_104, li_105, li_106, li_107, li_108, li_109, li_110, li_111, li_112, li_113, li_114, li_115, li_116, li_117, li_118, li_119, li_120, li_128, li_142, li_255, li_320, li_781, li_852, li_999, li_1000, li_2000, li_3000, li_9999, li_12345, li_65536, li_1000000, li_252645135, li_858993459, li_1103515245, li_1431655765]
      exact z1
    · rw [if_neg q]
      simp (disch := omega) only [gd_t, so_some, so_bind, so_gd, so_none, Option.bind_some, iI_add, iI_sub, iI_mul, iI_neg, iI_clamp, iI_nat, vin_i, iI_le, iI_lt, iI_eq, mn_i, mx_i, if_true, if_false, if_pos, if_neg, li_0, li_1, li_2, li_3, li_4, li_5, li_6, li_7, li_8, li_9, li_10, li_11, li_12, li_14, li_15, li_16, li_20, li_21, li_24, li_28, li_30, li_31, li_40, li_41, li_42, li_43, li_44, li_45, li_47, li_48, li_49, li_57, li_59, li_60, li_61, li_62, li_63, li_70, li_71, li_76, li_80, li_96, li_97, li_98, li_99, li_100, li_101, li_102, li_103, li_104, li_105, li_106, li_107, li_108, li_109, li_110, li_111, li_112, li_113, li_114, li_115, li_116, li_117, li_118, li_119, li_120, li_128, li_142, li_255, li_320, li_781, li_852, li_999, li_1000, li_2000, li_3000, li_9999, li_12345, li_65536, li_1000000, li_252645135, li_858993459, li_1103515245, li_1431655765]
      exact z2.at (by omega) (by omega)
theorem m_L33 {E : EN} (G : EnG E) {ho many size : Int32} {hold below weather rule : Nat → Int32} (M : EnM E ho many size hold below weather rule) {A : Int → Int} (g : GT E (ws0 A)) (hA : A 70 + 3 < 2147483648) {now : Nat → Int32} (hN : Arr 71 now A) {h hs : Int} {n : Nat} (h1 : 1 ≤ h) (h2 : h ≤ 99) (n3 : n ≤ 3) (s0 : -1 ≤ hs) (s1 : hs < 7) {N : Int} (hNN : N ≤ 3375) (cb : ∀ t, fol E h hs t (ws0 A) = none ∨ True) :
    ∀ (m : Nat) (c : Int) (b : BE) (f : Nat) (rr : Nat) (len top at' wrong asked i1 i2 i3 i4 i5 i6 sm on si : Int32) (plan owedBy th bp : Nat → Int32), 0 ≤ c → c + m = N → m < f → 0 ≤ b.1 → b.1 ≤ 1000000 → Re bp b.2 → (∀ c t, 0 ≤ c → fol E h hs (dgs n c) (ws0 A) = some t → 0 ≤ cst hs t ∧ cst hs t < 1000000) →
      So (fX12_bestBy_L33 ho many size now weather hold below rule (iI n) (iI h) (iI hs) (iI N) f (iI b.1) (iI c) rr len top at' wrong asked i1 i2 i3 i4 i5 i6 sm on si plan owedBy th bp)
        (fun o => o.1 = iI (bF (evC E h hs n (ws0 A)) m c b).1 ∧ Re o.2.2.2.2.2.2.2.2.2.2.2.2.2.2.2.2.2.2.2 (bF (evC E h hs n (ws0 A)) m c b).2)
  | 0, c, b, f, rr, len, top, at', wrong, asked, i1, i2, i3, i4, i5, i6, sm, on, si, plan, owedBy, th, bp, c0, cm, hf, b0, b1, hb, hv => by
    obtain ⟨f, rfl⟩ : ∃ g, f = g + 1 := ⟨f - 1, by omega⟩
    rw [fX12_bestBy_L33]
    simp (disch := omega) only [gd_t, so_some, so_bind, so_gd, so_none, Option.bind_some, iI_add, iI_sub, iI_mul, iI_neg, iI_clamp, iI_nat, vin_i, iI_le, iI_lt, iI_eq, mn_i, mx_i, if_true, if_false, if_pos, if_neg, li_0, li_1, li_2, li_3, li_4, li_5, li_6, li_7, li_8, li_9, li_10, li_11, li_12, li_14, li_15, li_16, li_20, li_21, li_24, li_28, li_30, li_31, li_40, li_41, li_42, li_43, li_44, li_45, li_47, li_48, li_49, li_57, li_59, li_60, li_61, li_62, li_63, li_70, li_71, li_76, li_80, li_96, li_97, li_98, li_99, li_100, li_101, li_102, li_103, li_104, li_105, li_106, li_107, li_108, li_109, li_110, li_111, li_112, li_113, li_114, li_115, li_116, li_117, li_118, li_119, li_120, li_128, li_142, li_255, li_320, li_781, li_852, li_999, li_1000, li_2000, li_3000, li_9999, li_12345, li_65536, li_1000000, li_252645135, li_858993459, li_1103515245, li_1431655765]
    exact ⟨rfl, hb⟩
  | m + 1, c, b, f, rr, len, top, at', wrong, asked, i1, i2, i3, i4, i5, i6, sm, on, si, plan, owedBy, th, bp, c0, cm, hf, b0, b1, hb, hv => by
    obtain ⟨f, rfl⟩ : ∃ g, f = g + 1 := ⟨f - 1, by omega⟩
    have hhE := M.1
    subst hhE
    have e := G.1
    rw [fX12_bestBy_L33, bF]
    have d5 := m_L52 e.1 e.2 s0 (by omega) n c 1 plan FU n3 c0 (by omega) (Or.inr rfl) (show n < 4000 by omega)
    have dl := dgs_len n c
    have db : ∀ d, d ∈ dgs n c → 0 ≤ d ∧ d ≤ 14 := fun d hd => dgs_b n c d c0 hd
    simp (disch := omega) only [gd_t, so_some, so_bind, so_gd, so_none, Option.bind_some, iI_add, iI_sub, iI_mul, iI_neg, iI_clamp, iI_nat, vin_i, iI_le, iI_lt, iI_eq, mn_i, mx_i, if_true, if_false, if_pos, if_neg, li_0, li_1, li_2, li_3, li_4, li_5, li_6, li_7, li_8, li_9, li_10, li_11, li_12, li_14, li_15, li_16, li_20, li_21, li_24, li_28, li_30, li_31, li_40, li_41, li_42, li_43, li_44, li_45, li_47, li_48, li_49, li_57, li_59, li_60, li_61, li_62, li_63, li_70, li_71, li_76, li_80, li_96, li_97, li_98, li_99, li_100, li_101, li_102, li_103, li_104, li_105, li_106, li_107, li_108, li_109, li_110, li_111, li_112, li_113, li_114, li_115, li_116, li_117, li_118, li_119, li_120, li_128, li_142, li_255, li_320, li_781, li_852, li_999, li_1000, li_2000, li_3000, li_9999, li_12345, li_65536, li_1000000, li_252645135, li_858993459, li_1103515245, li_1431655765]
    refine so_mono d5 ?_
    rintro o17 ⟨⟨cn, p1, p2⟩, p3, -⟩
    rcases p2 with ⟨rfl, -, hcn⟩ | ⟨rfl, hcn⟩
    · rw [p1]
      simp (disch := omega) only [gd_t, so_some, so_bind, so_gd, so_none, Option.bind_some, iI_add, iI_sub, iI_mul, iI_neg, iI_clamp, iI_nat, vin_i, iI_le, iI_lt, iI_eq, mn_i, mx_i, if_true, if_false, if_pos, if_neg, li_0, li_1, li_2, li_3, li_4, li_5, li_6, li_7, li_8, li_9, li_10, li_11, li_12, li_14, li_15, li_16, li_20, li_21, li_24, li_28, li_30, li_31, li_40, li_41, li_42, li_43, li_44, li_45, li_47, li_48, li_49, li_57, li_59, li_60, li_61, li_62, li_63, li_70, li_71, li_76, li_80, li_96, li_97, li_98, li_99, li_100, li_101, li_102, li_103, li_104, li_105, li_106, li_107, li_108, li_109, li_110, li_111, li_112, li_113, li_114, li_115, li_116, li_117, li_118, li_119, li_120, li_128, li_142, li_255, li_320, li_781, li_852, li_999, li_1000, li_2000, li_3000, li_9999, li_12345, li_65536, li_1000000, li_252645135, li_858993459, li_1103515245, li_1431655765]
      refine so_mono (m_owedBy G M g hA hN h1 h2 (by omega) s0 s1 (by omega) p3 db hcn rr len top at' wrong asked i1 i2 i3 i4 i5 i6 sm on si owedBy th) ?_
      intro o20 ho
      cases hf2 : fol E h hs (dgs n c) (ws0 A) with
      | none =>
        rw [hf2] at ho
        have ev : evC E h hs n (ws0 A) c b = b := by unfold evC; rw [hf2]
        rw [ev, ho]
        simp (disch := omega) only [gd_t, so_some, so_bind, so_gd, so_none, Option.bind_some, iI_add, iI_sub, iI_mul, iI_neg, iI_clamp, iI_nat, vin_i, iI_le, iI_lt, iI_eq, mn_i, mx_i, if_true, if_false, if_pos, if_neg, li_0, li_1, li_2, li_3, li_4, li_5, li_6, li_7, li_8, li_9, li_10, li_11, li_12, li_14, li_15, li_16, li_20, li_21, li_24, li_28, li_30, li_31, li_40, li_41, li_42, li_43, li_44, li_45, li_47, li_48, li_49, li_57, li_59, li_60, li_61, li_62, li_63, li_70, li_71, li_76, li_80, li_96, li_97, li_98, li_99, li_100, li_101, li_102, li_103, li_104, li_105, li_106, li_107, li_108, li_109, li_110, li_111, li_112, li_113, li_114, li_115, li_116, li_117, li_118, li_119, li_120, li_128, li_142, li_255, li_320, li_781, li_852, li_999, li_1000, li_2000, li_3000, li_9999, li_12345, li_65536, li_1000000, li_252645135, li_858993459, li_1103515245, li_1431655765]
        exact m_L33 G M g hA hN h1 h2 n3 s0 s1 hNN cb m (c + 1) b f _ _ _ _ _ _ _ _ _ _ _ _ _ _ _ _ _ _ _ (by omega) (by omega) (by omega) b0 b1 hb hv
      | some t =>
        rw [hf2] at ho
        have cv := hv c t c0 hf2
        rw [ho]
        by_cases q : cst hs t < b.1
        · have ev : evC E h hs n (ws0 A) c b = (cst hs t, dgs n c) := by unfold evC; rw [hf2]; exact if_pos q
          rw [ev]
          simp (disch := omega) only [gd_t, so_some, so_bind, so_gd, so_none, Option.bind_some, iI_add, iI_sub, iI_mul, iI_neg, iI_clamp, iI_nat, vin_i, iI_le, iI_lt, iI_eq, mn_i, mx_i, if_true, if_false, if_pos, if_neg, li_0, li_1, li_2, li_3, li_4, li_5, li_6, li_7, li_8, li_9, li_10, li_11, li_12, li_14, li_15, li_16, li_20, li_21, li_24, li_28, li_30, li_31, li_40, li_41, li_42, li_43, li_44, li_45, li_47, li_48, li_49, li_57, li_59, li_60, li_61, li_62, li_63, li_70, li_71, li_76, li_80, li_96, li_97, li_98, li_99, li_100, li_101, li_102, li_103, li_104, li_105, li_106, li_107, li_108, li_109, li_110, li_111, li_112, li_113, li_114, li_115, li_116, li_117, li_118, li_119, li_120, li_128, li_142, li_255, li_320, li_781, li_852, li_999, li_1000, li_2000, li_3000, li_9999, li_12345, li_65536, li_1000000, li_252645135, li_858993459, li_1103515245, li_1431655765]
          refine so_mono (m_L172 (n := n) (by omega) (by omega) p3 n 0 bp FU (by omega) (by omega) (show n < 4000 by omega) (fun j x hj _ => by omega)) ?_
          intro o26 h26
          exact m_L33 G M g hA hN h1 h2 n3 s0 s1 hNN cb m (c + 1) (cst hs t, dgs n c) f _ _ _ _ _ _ _ _ _ _ _ _ _ _ _ _ _ _ _ (by omega) (by omega) (by omega) cv.1 (by show cst hs t ≤ 1000000; omega) h26 hv
        · have ev : evC E h hs n (ws0 A) c b = b := by unfold evC; rw [hf2]; exact if_neg q
          rw [ev]
          simp (disch := omega) only [gd_t, so_some, so_bind, so_gd, so_none, Option.bind_some, iI_add, iI_sub, iI_mul, iI_neg, iI_clamp, iI_nat, vin_i, iI_le, iI_lt, iI_eq, mn_i, mx_i, if_true, if_false, if_pos, if_neg, li_0, li_1, li_2, li_3, li_4, li_5, li_6, li_7, li_8, li_9, li_10, li_11, li_12, li_14, li_15, li_16, li_20, li_21, li_24, li_28, li_30, li_31, li_40, li_41, li_42, li_43, li_44, li_45, li_47, li_48, li_49, li_57, li_59, li_60, li_61, li_62, li_63, li_70, li_71, li_76, li_80, li_96, li_97, li_98, li_99, li_100, li_101, li_102, li_103, li_104, li_105, li_106, li_107, li_108, li_109, li_110, li_111, li_112, li_113, li_114, li_115, li_116, li_117, li_118, li_119, li_120, li_128, li_142, li_255, li_320, li_781, li_852, li_999, li_1000, li_2000, li_3000, li_9999, li_12345, li_65536, li_1000000, li_252645135, li_858993459, li_1103515245, li_1431655765]
          exact m_L33 G M g hA hN h1 h2 n3 s0 s1 hNN cb m (c + 1) b f _ _ _ _ _ _ _ _ _ _ _ _ _ _ _ _ _ _ _ (by omega) (by omega) (by omega) b0 b1 hb hv
    · have hf2 : fol E h hs (dgs n c) (ws0 A) = none := by
        cases hf3 : fol E h hs (dgs n c) (ws0 A) with
        | none => rfl
        | some t =>
          have := fol_can G h1 _ _ _ g db hf3
          rcases hcn with z | ⟨d, d1, d2⟩
          · omega
          · exact absurd (this d d1) d2
      have ev : evC E h hs n (ws0 A) c b = b := by unfold evC; rw [hf2]
      rw [ev, p1]
      simp (disch := omega) only [gd_t, so_some, so_bind, so_gd, so_none, Option.bind_some, iI_add, iI_sub, iI_mul, iI_neg, iI_clamp, iI_nat, vin_i, iI_le, iI_lt, iI_eq, mn_i, mx_i, if_true, if_false, if_pos, if_neg, li_0, li_1, li_2, li_3, li_4, li_5, li_6, li_7, li_8, li_9, li_10, li_11, li_12, li_14, li_15, li_16, li_20, li_21, li_24, li_28, li_30, li_31, li_40, li_41, li_42, li_43, li_44, li_45, li_47, li_48, li_49, li_57, li_59, li_60, li_61, li_62, li_63, li_70, li_71, li_76, li_80, li_96, li_97, li_98, li_99, li_100, li_101, li_102, li_103, li_104, li_105, li_106, li_107, li_108, li_109, li_110, li_111, li_112, li_113, li_114, li_115, li_116, li_117, li_118, li_119, li_120, li_128, li_142, li_255, li_320, li_781, li_852, li_999, li_1000, li_2000, li_3000, li_9999, li_12345, li_65536, li_1000000, li_252645135, li_858993459, li_1103515245, li_1431655765]
      exact m_L33 G M g hA hN h1 h2 n3 s0 s1 hNN cb m (c + 1) b f _ _ _ _ _ _ _ _ _ _ _ _ _ _ _ _ _ _ _ (by omega) (by omega) (by omega) b0 b1 hb hv
theorem fol_cst {E : EN} (G : EnG E) {h hs : Int} : ∀ (r : List Int) (t u : WS), fol E h hs r t = some u → cst hs t ≤ cst hs u ∧ cst hs u ≤ cst hs t + 1386 * r.length
  | [], t, u, hf => by
    rw [fol] at hf
    have : t = u := Option.some.inj hf
    rw [this]
    show _ ∧ cst hs u ≤ cst hs u + 1386 * ((0 : Nat) : Int)
    omega
  | s :: r, t, u, hf => by
    rw [fol] at hf
    split at hf
    · have a := fol_cst G r _ u hf
      have b := cst_pst G hs h s t
      have : ((s :: r).length : Int) = (r.length : Int) + 1 := by show ((r.length + 1 : Nat) : Int) = _; omega
      omega
    · cases hf
theorem cst_0 (hs : Int) (A : Int → Int) : cst hs (ws0 A) = 0 := by
  unfold cst
  split <;> rfl
theorem m_bestBy {E : EN} (G : EnG E) {ho many size : Int32} {hold below weather rule : Nat → Int32} (M : EnM E ho many size hold below weather rule) {A : Int → Int} (g : GT E (ws0 A)) (hA : A 70 + 3 < 2147483648) {now : Nat → Int32} (hN : Arr 71 now A) {h hs : Int} {n : Nat} (h1 : 1 ≤ h) (h2 : h ≤ 99) (n1 : 1 ≤ n) (n3 : n ≤ 3) (s0 : -1 ≤ hs) (s1 : hs < 7)
    (rm : Int32) (rr : Nat) (len top at' wrong asked i1 i2 i3 i4 i5 i6 sm on si : Int32) (plan owedBy th bp row : Nat → Int32) :
    So (fX12_bestBy ho many rm rr len top at' wrong size asked i1 i2 i3 i4 i5 i6 sm on si plan owedBy now th weather hold below rule bp row (iI n) (iI h) (iI hs))
      (fun o => o.1 = iI (bM E h hs n (ws0 A) [] (1000000, [])).1 ∧ Rw ((bM E h hs n (ws0 A) [] (1000000, [])).2.map iI) o.2.1 o.2.2.2.2.2.2.2.2.2.2.2.2.2.2.2.2.2.2.2.2.2) := by
  have c0 := cst_0 hs A
  have e3 : n = 1 ∨ n = 2 ∨ n = 3 := by omega
  have N1 : ((15 ^ n : Nat) : Int) ≤ 3375 := by rcases e3 with rfl | rfl | rfl <;> decide
  have N2 : 15 ^ n < FU := by rcases e3 with rfl | rfl | rfl <;> decide
  have L := m_L33 G M g hA hN h1 h2 n3 s0 s1 N1 (fun _ => Or.inr trivial) (15 ^ n) 0 (1000000, []) FU rr len top at' wrong asked i1 i2 i3 i4 i5 i6 sm on si plan owedBy th bp (by omega) (by omega) N2 (by show (0 : Int) ≤ 1000000; omega) (Int.le_refl _) (fun j x hx => by cases hx) (fun c t cc hf => by
    have := fol_cst G _ _ _ hf
    rw [dgs_len, c0] at this
    omega)
  rw [bM_all] at L
  have st := bM_st G (h := h) (hs := hs) n (ws0 A) [] (1000000, [])
  have rl := bM_rl (E := E) (h := h) (hs := hs) (M := 1000000) n n (ws0 A) [] (1000000, []) (Nat.zero_add n) (fun z => absurd z (by show ¬ (1000000 : Int) < 1000000; omega))
  rw [c0] at st
  have len' := rl (by omega)
  unfold fX12_bestBy
  rw [m_L11 (by omega) (by omega), Option.bind_some, so_bind, Int.toNat_natCast]
  refine so_mono L ?_
  rintro o28 ⟨b1, b2⟩
  generalize (bM E h hs n (ws0 A) [] (1000000, [])) = B at b1 b2 len' st
  have key : ∀ (m : Nat) (k : Nat) (f : Nat) (c : Int32) (a : Nat → Int32), k + m = n → m < f → Rw ((B.2.take k).map iI) c a → So (fX12_bestBy_L212 (iI n) o28.2.2.2.2.2.2.2.2.2.2.2.2.2.2.2.2.2.2.2 f (iI k) c a) (fun o => Rw (B.2.map iI) o.1 o.2) := by
    intro m
    induction m with
    | zero =>
      intro k f c a km hf hR
      obtain ⟨f, rfl⟩ : ∃ g, f = g + 1 := ⟨f - 1, by omega⟩
      rw [fX12_bestBy_L212]
      simp (disch := omega) only [gd_t, so_some, so_bind, so_gd, so_none, Option.bind_some, iI_add, iI_sub, iI_mul, iI_neg, iI_clamp, iI_nat, vin_i, iI_le, iI_lt, iI_eq, mn_i, mx_i, if_true, if_false, if_pos, if_neg, li_0, li_1, li_2, li_3, li_4, li_5, li_6, li_7, li_8, li_9, li_10, li_11, li_12, li_14, li_15, li_16, li_20, li_21, li_24, li_28, li_30, li_31, li_40, li_41, li_42, li_43, li_44, li_45, li_47, li_48, li_49, li_57, li_59, li_60, li_61, li_62, li_63, li_70, li_71, li_76, li_80, li_96, li_97, li_98, li_99, li_100, li_101, li_102, li_103, li_104, li_105, li_106, li_107, li_108, li_109, li_110, li_111, li_112, li_113, li_114, li_115, li_116, li_117, li_118, li_119, li_120, li_128, li_142, li_255, li_320, li_781, li_852, li_999, li_1000, li_2000, li_3000, li_9999, li_12345, li_65536, li_1000000, li_252645135, li_858993459, li_1103515245, li_1431655765]
      rw [List.take_of_length_le (by omega)] at hR
      exact hR
    | succ m ih =>
      intro k f c a km hf hR
      obtain ⟨f, rfl⟩ : ∃ g, f = g + 1 := ⟨f - 1, by omega⟩
      have kl : k < B.2.length := by omega
      have hx := b2 k _ (List.getElem?_eq_getElem kl)
      rw [fX12_bestBy_L212]
      simp (disch := omega) only [gd_t, so_some, so_bind, so_gd, so_none, Option.bind_some, iI_add, iI_sub, iI_mul, iI_neg, iI_clamp, iI_nat, vin_i, iI_le, iI_lt, iI_eq, mn_i, mx_i, if_true, if_false, if_pos, if_neg, li_0, li_1, li_2, li_3, li_4, li_5, li_6, li_7, li_8, li_9, li_10, li_11, li_12, li_14, li_15, li_16, li_20, li_21, li_24, li_28, li_30, li_31, li_40, li_41, li_42, li_43, li_44, li_45, li_47, li_48, li_49, li_57, li_59, li_60, li_61, li_62, li_63, li_70, li_71, li_76, li_80, li_96, li_97, li_98, li_99, li_100, li_101, li_102, li_103, li_104, li_105, li_106, li_107, li_108, li_109, li_110, li_111, li_112, li_113, li_114, li_115, li_116, li_117, li_118, li_119, li_120, li_128, li_142, li_255, li_320, li_781, li_852, li_999, li_1000, li_2000, li_3000, li_9999, li_12345, li_65536, li_1000000, li_252645135, li_858993459, li_1103515245, li_1431655765, Int.toNat_natCast, hx]
      refine so_mono (m_more hR (by rw [List.length_map, List.length_take]; omega) (iI B.2[k])) ?_
      intro o ho
      rw [show (k : Int) + 1 = ((k + 1 : Nat) : Int) by omega]
      refine ih (k + 1) f o.1 o.2 (by omega) (by omega) ?_
      rw [List.take_succ_eq_append_getElem kl, List.map_append]
      exact ho
  rw [so_bind]
  refine so_mono (key n 0 FU (iI 0) row (by omega) (show n < 4000 by omega) (Rw.nil row)) ?_
  intro o34 h34
  rw [so_some]
  exact ⟨b1, h34⟩
