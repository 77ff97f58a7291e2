def ixO (X : Int) : Int := if X = 100 then 0 else if X = 112 then 1 else if X = 116 then 2 else if X = 111 then 3 else if X = 110 then 4 else if X = 120 then 5 else if X = 104 then 6 else if X = 98 then 7 else -1
theorem ix_7 (X : Int) : ixO X ≤ 7 := by
  unfold ixO
  split
  · omega
  · split
    · omega
    · split
      · omega
      · split
        · omega
        · split
          · omega
          · split
            · omega
            · split
              · omega
              · split
                · omega
                · omega
theorem ix_n (X : Int) : 0 ≤ ixO X ∨ ixO X = -1 := by
  unfold ixO
  split
  · omega
  · split
    · omega
    · split
      · omega
      · split
        · omega
        · split
          · omega
          · split
            · omega
            · split
              · omega
              · split
                · omega
                · omega
theorem ix_d : ∀ X : Fin 256, fJ0_indexOf_0f7a4 (((iI (X.val : Int)).toUInt32 % 65536).toInt32) = some (iI (ixO (X.val : Int))) := by decide +kernel
theorem ix_i {X : Int} (x0 : 0 ≤ X) (x1 : X ≤ 255) : fJ0_indexOf_0f7a4 (((iI X).toUInt32 % 65536).toInt32) = some (iI (ixO X)) := by
  have h := ix_d ⟨X.toNat, by omega⟩
  rw [show (((⟨X.toNat, by omega⟩ : Fin 256).val : Nat) : Int) = X by show ((X.toNat : Nat) : Int) = X; omega] at h
  exact h
theorem m_J67_no {nb : Nat} {many l40 asked q1 q2 q3 q4 q5 q6 : Int32} {l : Int} {b hold weather : Nat → Int32} {X k : Int} (x0 : -1 ≤ X) (x1 : X ≤ 255) (hd : ¬ dg X) (hx : ixO X = -1) (k0 : 0 ≤ k) (k1 : k < 1000) :
    fX12_thing_J67 nb many (iI l) l40 asked q1 q2 q3 q4 q5 q6 b hold weather (iI (sb X)) (iI k) (iI (-1)) = some (iI 0, iI k, iI k) := by
  have z := (m_dig x0 x1).2 hd
  have n : X ≠ 100 ∧ X ≠ 112 ∧ X ≠ 116 ∧ X ≠ 111 ∧ X ≠ 110 ∧ X ≠ 120 ∧ X ≠ 104 ∧ X ≠ 98 := by
    refine ⟨?_, ?_, ?_, ?_, ?_, ?_, ?_, ?_⟩ <;> (intro z; rw [z] at hx; exact absurd hx (by decide))
  have e : ∀ c : Int, 0 ≤ c → c < 128 → X ≠ c → ¬ iI (sb X) = iI c := fun c c0 c1 h w => h ((sb_c x0 x1 c0 c1).1 w)
  unfold fX12_thing_J67
  rw [show (48 : Int32) = iI 48 from rfl, show (57 : Int32) = iI 57 from rfl, z, Option.bind_some, if_pos (by decide), if_neg (show ¬ iI (sb X) = (100 : Int32) from e 100 (by omega) (by omega) n.1), if_neg (show ¬ iI (sb X) = (112 : Int32) from e 112 (by omega) (by omega) n.2.1), if_neg (show ¬ iI (sb X) = (116 : Int32) from e 116 (by omega) (by omega) n.2.2.1), if_neg (show ¬ iI (sb X) = (111 : Int32) from e 111 (by omega) (by omega) n.2.2.2.1), if_neg (show ¬ iI (sb X) = (110 : Int32) from e 110 (by omega) (by omega) n.2.2.2.2.1), if_neg (show ¬ iI (sb X) = (120 : Int32) from e 120 (by omega) (by omega) n.2.2.2.2.2.1), if_neg (show ¬ iI (sb X) = (104 : Int32) from e 104 (by omega) (by omega) n.2.2.2.2.2.2.1), if_neg (show ¬ iI (sb X) = (98 : Int32) from e 98 (by omega) (by omega) n.2.2.2.2.2.2.2), m_fault_t, Option.bind_some]
  rfl
theorem m_J67_yes {nb : Nat} {many l40 asked q1 q2 q3 q4 q5 q6 : Int32} {l : Int} {b hold weather : Nat → Int32} {T : Int → Int} (LT : LtR asked many q1 q2 q3 q4 q5 q6 hold weather T) {X k : Int} (x0 : -1 ≤ X) (x1 : X ≤ 255) (hx : 0 ≤ ixO X) (k0 : 0 ≤ k) (k1 : k < 1000) :
    fX12_thing_J67 nb many (iI l) l40 asked q1 q2 q3 q4 q5 q6 b hold weather (iI (sb X)) (iI k) (iI (-1)) = some (iI (T (ixO X)), iI (k + 1), iI (-1)) := by
  have cs : (X = 100 ∧ ixO X = 0) ∨ (X = 112 ∧ ixO X = 1) ∨ (X = 116 ∧ ixO X = 2) ∨ (X = 111 ∧ ixO X = 3) ∨ (X = 110 ∧ ixO X = 4) ∨ (X = 120 ∧ ixO X = 5) ∨ (X = 104 ∧ ixO X = 6) ∨ (X = 98 ∧ ixO X = 7) := by
    by_cases h0 : X = 100
    · exact Or.inl ⟨h0, by rw [h0]; rfl⟩
    by_cases h1 : X = 112
    · exact Or.inr (Or.inl ⟨h1, by rw [h1]; rfl⟩)
    by_cases h2 : X = 116
    · exact Or.inr (Or.inr (Or.inl ⟨h2, by rw [h2]; rfl⟩))
    by_cases h3 : X = 111
    · exact Or.inr (Or.inr (Or.inr (Or.inl ⟨h3, by rw [h3]; rfl⟩)))
    by_cases h4 : X = 110
    · exact Or.inr (Or.inr (Or.inr (Or.inr (Or.inl ⟨h4, by rw [h4]; rfl⟩))))
    by_cases h5 : X = 120
    · exact Or.inr (Or.inr (Or.inr (Or.inr (Or.inr (Or.inl ⟨h5, by rw [h5]; rfl⟩)))))
    by_cases h6 : X = 104
    · exact Or.inr (Or.inr (Or.inr (Or.inr (Or.inr (Or.inr (Or.inl ⟨h6, by rw [h6]; rfl⟩))))))
    by_cases h7 : X = 98
    · exact Or.inr (Or.inr (Or.inr (Or.inr (Or.inr (Or.inr (Or.inr (⟨h7, by rw [h7]; rfl⟩)))))))
    exfalso
    unfold ixO at hx
    rw [if_neg h0, if_neg h1, if_neg h2, if_neg h3, if_neg h4, if_neg h5, if_neg h6, if_neg h7] at hx
    omega
  have e := LT X (ixO X) cs (iI k) (iI (-1))
  have xb : 98 ≤ X ∧ X ≤ 120 := by omega
  have z := (m_dig x0 x1).2 (by unfold dg; omega)
  have s1 : sb X = X := sb_lo (by omega)
  rw [s1] at z ⊢
  have ek : iI k + 1 = iI (k + 1) := by rw [li_1, iI_add]
  unfold fX12_thing_J67
  rw [show (48 : Int32) = iI 48 from rfl, show (57 : Int32) = iI 57 from rfl, z, Option.bind_some, if_pos (by decide), e, ek]
  rcases cs with ⟨rfl, _⟩ | ⟨rfl, _⟩ | ⟨rfl, _⟩ | ⟨rfl, _⟩ | ⟨rfl, _⟩ | ⟨rfl, _⟩ | ⟨rfl, _⟩ | ⟨rfl, _⟩ <;> rfl
theorem m_J67_num {nb : Nat} {many asked q1 q2 q3 q4 q5 q6 : Int32} {l : Int} {b hold weather : Nat → Int32} {X k : Int} (x0 : -1 ≤ X) (x1 : X ≤ 255) (hd : dg X) {r : Int32 × Int32 × Int32} (h : fX12_number nb (iI l) (iI 40) (iI k) (iI (-1)) b (iI 3) (iI 0) (iI 999) = some r) :
    fX12_thing_J67 nb many (iI l) (iI 40) asked q1 q2 q3 q4 q5 q6 b hold weather (iI (sb X)) (iI k) (iI (-1)) = some r := by
  have z := (m_dig x0 x1).1 hd
  unfold fX12_thing_J67
  rw [show (48 : Int32) = iI 48 from rfl, show (57 : Int32) = iI 57 from rfl, z, Option.bind_some, if_neg (by decide), show (3 : Int32) = iI 3 from rfl, show (0 : Int32) = iI 0 from rfl, show (999 : Int32) = iI 999 from rfl, h]
  rfl
theorem pr_thing {Tx : Int → Int} (hT : ∀ i, 0 ≤ Tx i ∧ Tx i ≤ 255) {l d k cfc mfc : Int} {a : Nat → Int32} (ha : Arr 80 a Tx) (l0 : 0 ≤ l) (l1 : l ≤ 1000) (k0 : 0 ≤ k) (km : k ≤ min l 40) (d0 : 0 ≤ d) (d1 : d ≤ 4) (f0 : 0 ≤ cfc) (f1 : 0 ≤ mfc)
    (PC : d < 4 → k + 1 ≤ min l 40 → PR Tx a l 0 0 cfc mfc (d + 1) (k + 1)) (h45 : hk Tx (min l 40) k ≠ 45) : PR Tx a l 4 3 (cfc + 1) (mfc + 1) d k := by
  have x := hk_b hT (min l 40) k
  have p1 := c_peek (m := min l 40) (k := k) ha k0 (by omega) (by omega) (by omega)
  have kl : ∀ c, 0 ≤ c → hk Tx (min l 40) k = c → k < min l 40 := fun c c0 h => hk_lt c0 h
  -- the model's beginning: no minus
  have mb : ∀ (t nb : Nat) (b : Nat → Int32) (asked many q1 q2 q3 q4 q5 q6 : Int32) (hold weather : Nat → Int32), min l 40 ≤ nb → nb ≤ 1000 → Arr (min l 40) b (fun i => sb (Tx i)) →
      fhsp (t + 1) 3 nb many (iI l) (iI 40) (iI k) (iI (-1)) asked q1 q2 q3 q4 q5 q6 b hold weather (iI d) = if iI (sb (hk Tx (min l 40) k)) = 40 then (if (4 : Int32) ≤ iI d then fX12_thing_J67 nb many (iI l) (iI 40) asked q1 q2 q3 q4 q5 q6 b hold weather (iI (sb (hk Tx (min l 40) k))) (iI k) (iI (-1)) else Option.bind (fhsp t 0 nb many (iI l) (iI 40) (iI k + 1) (iI (-1)) asked q1 q2 q3 q4 q5 q6 b hold weather (iI d + 1)) (fun o29 => Option.bind (fX12_need nb (iI l) (iI 40) o29.2.1 o29.2.2 b 41) (fun o31 => some (o29.1, o31.1, o31.2)))) else fX12_thing_J67 nb many (iI l) (iI 40) asked q1 q2 q3 q4 q5 q6 b hold weather (iI (sb (hk Tx (min l 40) k))) (iI k) (iI (-1)) := by
    intro t nb b asked many q1 q2 q3 q4 q5 q6 hold weather hn n1 hb
    have h1 := m_hereL (l := l) (tp := 40) (k := k) hb k0 l0 l1 (by omega) (by omega) (by omega) hn n1
    have ps := m_passesL hT (l := l) (tp := 40) (k := k) (c := 45) hb k0 l0 l1 (by omega) (by omega) (by omega) hn n1 (by omega) (by omega)
    rw [if_neg h45] at ps
    have fi : fX12_fine (iI (-1)) = some (iI 1) := rfl
    rw [fhsp_3]
    unfold fX12_thing_B
    rw [show (45 : Int32) = iI 45 from rfl, ps, Option.bind_some]
    dsimp only
    rw [if_pos (by decide), fi, Option.bind_some, if_neg (by decide), h1, Option.bind_some]
  obtain ⟨X, hX⟩ : ∃ X, hk Tx (min l 40) k = X := ⟨_, rfl⟩
  rw [hX] at x p1 kl mb
  have cb : ∀ (t : Nat) (D : Int) (draft : Nat → Int32), frul (t + 1) 4 (iI D) draft (iI k) (iI (min l 40)) a (iI d) = fX4_readThing_B (frul t) (iI D) draft (iI k) (iI (min l 40)) a (iI d) := by
    intro t D draft
    exact frul_4 _ _ _ _ _ _ _
  have sk : fX6_skip (iI k) = some (iI (k + 1)) := by unfold fX6_skip; rw [li_1, iI_add]
  by_cases q40 : X = 40
  · have kk := kl 40 (by omega) q40
    have s1 : iI (sb X) = 40 := by rw [q40]; rfl
    by_cases qd : d < 4
    · rcases PC qd (by omega) with ⟨w, w0, w1, C, M⟩ | ⟨k', c, V, kk', km', cl, cd, C, M⟩
      · left
        refine ⟨w, w0, w1, fun t D draft ht D0 Dk => ?_, fun t nb b asked many q1 q2 q3 q4 q5 q6 hold weather T ht hn n1 hb LT => ?_⟩
        · obtain ⟨t, rfl⟩ : ∃ u, t = u + 1 := ⟨t - 1, by omega⟩
          have c1 := C t D draft (by omega) D0 (by omega)
          rw [cb]
          unfold fX4_readThing_B
          simp (disch := omega) only [gd_t, so_some, so_bind, so_gd, so_none, Option.bind_some, iI_add, iI_sub, iI_mul, iI_neg, iI_clamp, iI_nat, vin_i, iI_le, iI_lt, iI_eq, mn_i, mx_i, if_true, if_false, if_pos, if_neg, li_0, li_1, li_2, li_3, li_4, li_5, li_6, li_7, li_8, li_9, li_10, li_11, li_12, li_14, li_15, li_16, li_20, li_21, li_24, li_28, li_30, li_31, li_40, li_41, li_42, li_43, li_44, li_45, li_47, li_48, li_49, li_57, li_59, li_60, li_61, li_62, li_63, li_70, li_71, li_76, li_80, li_96, li_97, li_98, li_99, li_100, li_101, li_102, li_103, li_104, li_105, li_106, li_107, li_108, li_109, li_110, li_111, li_112, li_113, li_114, li_115, li_116, li_117, li_118, li_119, li_120, li_128, li_142, li_255, li_320, li_781, li_852, li_999, li_1000, li_2000, li_3000, li_9999, li_12345, li_65536, li_1000000, li_252645135, li_858993459, li_1103515245, li_1431655765, p1, sk]
          refine so_mono c1 ?_
          rintro o ⟨o1, o2, D', o3, o4, o5⟩
          rw [o1]
          simp (disch := omega) only [gd_t, so_some, so_bind, so_gd, so_none, Option.bind_some, iI_add, iI_sub, iI_mul, iI_neg, iI_clamp, iI_nat, vin_i, iI_le, iI_lt, iI_eq, mn_i, mx_i, if_true, if_false, if_pos, if_neg, li_0, li_1, li_2, li_3, li_4, li_5, li_6, li_7, li_8, li_9, li_10, li_11, li_12, li_14, li_15, li_16, li_20, li_21, li_24, li_28, li_30, li_31, li_40, li_41, li_42, li_43, li_44, li_45, li_47, li_48, li_49, li_57, li_59, li_60, li_61, li_62, li_63, li_70, li_71, li_76, li_80, li_96, li_97, li_98, li_99, li_100, li_101, li_102, li_103, li_104, li_105, li_106, li_107, li_108, li_109, li_110, li_111, li_112, li_113, li_114, li_115, li_116, li_117, li_118, li_119, li_120, li_128, li_142, li_255, li_320, li_781, li_852, li_999, li_1000, li_2000, li_3000, li_9999, li_12345, li_65536, li_1000000, li_252645135, li_858993459, li_1103515245, li_1431655765]
          exact ⟨(by first | rfl | trivial), o2, D', o3, o4, o5⟩
        · obtain ⟨t, rfl⟩ : ∃ u, t = u + 1 := ⟨t - 1, by omega⟩
          have m1 := M t nb b asked many q1 q2 q3 q4 q5 q6 hold weather T (by omega) hn n1 hb LT
          rw [mb t nb b asked many q1 q2 q3 q4 q5 q6 hold weather hn n1 hb, if_pos s1]
          simp (disch := omega) only [gd_t, so_some, so_bind, so_gd, so_none, Option.bind_some, iI_add, iI_sub, iI_mul, iI_neg, iI_clamp, iI_nat, vin_i, iI_le, iI_lt, iI_eq, mn_i, mx_i, if_true, if_false, if_pos, if_neg, li_0, li_1, li_2, li_3, li_4, li_5, li_6, li_7, li_8, li_9, li_10, li_11, li_12, li_14, li_15, li_16, li_20, li_21, li_24, li_28, li_30, li_31, li_40, li_41, li_42, li_43, li_44, li_45, li_47, li_48, li_49, li_57, li_59, li_60, li_61, li_62, li_63, li_70, li_71, li_76, li_80, li_96, li_97, li_98, li_99, li_100, li_101, li_102, li_103, li_104, li_105, li_106, li_107, li_108, li_109, li_110, li_111, li_112, li_113, li_114, li_115, li_116, li_117, li_118, li_119, li_120, li_128, li_142, li_255, li_320, li_781, li_852, li_999, li_1000, li_2000, li_3000, li_9999, li_12345, li_65536, li_1000000, li_252645135, li_858993459, li_1103515245, li_1431655765]
          refine so_mono m1 ?_
          intro p hp
          rw [hp]
          simp (disch := omega) only [gd_t, so_some, so_bind, so_gd, so_none, Option.bind_some, iI_add, iI_sub, iI_mul, iI_neg, iI_clamp, iI_nat, vin_i, iI_le, iI_lt, iI_eq, mn_i, mx_i, if_true, if_false, if_pos, if_neg, li_0, li_1, li_2, li_3, li_4, li_5, li_6, li_7, li_8, li_9, li_10, li_11, li_12, li_14, li_15, li_16, li_20, li_21, li_24, li_28, li_30, li_31, li_40, li_41, li_42, li_43, li_44, li_45, li_47, li_48, li_49, li_57, li_59, li_60, li_61, li_62, li_63, li_70, li_71, li_76, li_80, li_96, li_97, li_98, li_99, li_100, li_101, li_102, li_103, li_104, li_105, li_106, li_107, li_108, li_109, li_110, li_111, li_112, li_113, li_114, li_115, li_116, li_117, li_118, li_119, li_120, li_128, li_142, li_255, li_320, li_781, li_852, li_999, li_1000, li_2000, li_3000, li_9999, li_12345, li_65536, li_1000000, li_252645135, li_858993459, li_1103515245, li_1431655765, m_need_f w0 (show w < 1000 by omega)]
      · have t41 := c_take hT (m := min l 40) (k := k') (c := 41) ha (by omega) (by omega) (by omega) (by omega) (by omega) (by omega)
        by_cases q41 : hk Tx (min l 40) k' = 41
        · have b1 := hk_lt (by omega) q41
          rw [if_pos q41] at t41
          right
          refine ⟨k' + 1, c, V, by omega, by omega, by omega, cd, fun t D draft ht D0 Dk => ?_, fun t nb b asked many q1 q2 q3 q4 q5 q6 hold weather T ht hn n1 hb LT => ?_⟩
          · obtain ⟨t, rfl⟩ : ∃ u, t = u + 1 := ⟨t - 1, by omega⟩
            have c1 := C t D draft (by omega) D0 (by omega)
            rw [cb]
            unfold fX4_readThing_B
            simp (disch := omega) only [gd_t, so_some, so_bind, so_gd, so_none, Option.bind_some, iI_add, iI_sub, iI_mul, iI_neg, iI_clamp, iI_nat, vin_i, iI_le, iI_lt, iI_eq, mn_i, mx_i, if_true, if_false, if_pos, if_neg, li_0, li_1, li_2, li_3, li_4, li_5, li_6, li_7, li_8, li_9, li_10, li_11, li_12, li_14, li_15, li_16, li_20, li_21, li_24, li_28, li_30, li_31, li_40, li_41, li_42, li_43, li_44, li_45, li_47, li_48, li_49, li_57, li_59, li_60, li_61, li_62, li_63, li_70, li_71, li_76, li_80, li_96, li_97, li_98, li_99, li_100, li_101, li_102, li_103, li_104, li_105, li_106, li_107, li_108, li_109, li_110, li_111, li_112, li_113, li_114, li_115, li_116, li_117, li_118, li_119, li_120, li_128, li_142, li_255, li_320, li_781, li_852, li_999, li_1000, li_2000, li_3000, li_9999, li_12345, li_65536, li_1000000, li_252645135, li_858993459, li_1103515245, li_1431655765, p1, sk]
            refine so_mono c1 ?_
            rintro o ⟨o1, o2, o3, o4⟩
            rw [o1, o3]
            simp (disch := omega) only [gd_t, so_some, so_bind, so_gd, so_none, Option.bind_some, iI_add, iI_sub, iI_mul, iI_neg, iI_clamp, iI_nat, vin_i, iI_le, iI_lt, iI_eq, mn_i, mx_i, if_true, if_false, if_pos, if_neg, li_0, li_1, li_2, li_3, li_4, li_5, li_6, li_7, li_8, li_9, li_10, li_11, li_12, li_14, li_15, li_16, li_20, li_21, li_24, li_28, li_30, li_31, li_40, li_41, li_42, li_43, li_44, li_45, li_47, li_48, li_49, li_57, li_59, li_60, li_61, li_62, li_63, li_70, li_71, li_76, li_80, li_96, li_97, li_98, li_99, li_100, li_101, li_102, li_103, li_104, li_105, li_106, li_107, li_108, li_109, li_110, li_111, li_112, li_113, li_114, li_115, li_116, li_117, li_118, li_119, li_120, li_128, li_142, li_255, li_320, li_781, li_852, li_999, li_1000, li_2000, li_3000, li_9999, li_12345, li_65536, li_1000000, li_252645135, li_858993459, li_1103515245, li_1431655765, t41]
            exact ⟨(by first | rfl | trivial), o2, (by first | rfl | trivial), o4⟩
          · obtain ⟨t, rfl⟩ : ∃ u, t = u + 1 := ⟨t - 1, by omega⟩
            have m1 := M t nb b asked many q1 q2 q3 q4 q5 q6 hold weather T (by omega) hn n1 hb LT
            have ps := m_passesL hT (l := l) (tp := 40) (k := k') (c := 41) hb (by omega) l0 l1 (by omega) (by omega) (by omega) hn n1 (by omega) (by omega)
            rw [if_pos q41] at ps
            have nd : fX12_need nb (iI l) (iI 40) (iI k') (iI (-1)) b (iI 41) = some (iI (k' + 1), iI (-1)) := by
              unfold fX12_need
              simp (disch := omega) only [gd_t, so_some, so_bind, so_gd, so_none, Option.bind_some, iI_add, iI_sub, iI_mul, iI_neg, iI_clamp, iI_nat, vin_i, iI_le, iI_lt, iI_eq, mn_i, mx_i, if_true, if_false, if_pos, if_neg, li_0, li_1, li_2, li_3, li_4, li_5, li_6, li_7, li_8, li_9, li_10, li_11, li_12, li_14, li_15, li_16, li_20, li_21, li_24, li_28, li_30, li_31, li_40, li_41, li_42, li_43, li_44, li_45, li_47, li_48, li_49, li_57, li_59, li_60, li_61, li_62, li_63, li_70, li_71, li_76, li_80, li_96, li_97, li_98, li_99, li_100, li_101, li_102, li_103, li_104, li_105, li_106, li_107, li_108, li_109, li_110, li_111, li_112, li_113, li_114, li_115, li_116, li_117, li_118, li_119, li_120, li_128, li_142, li_255, li_320, li_781, li_852, li_999, li_1000, li_2000, li_3000, li_9999, li_12345, li_65536, li_1000000, li_252645135, li_858993459, li_1103515245, li_1431655765, ps]
            rw [mb t nb b asked many q1 q2 q3 q4 q5 q6 hold weather hn n1 hb, if_pos s1]
            simp (disch := omega) only [gd_t, so_some, so_bind, so_gd, so_none, Option.bind_some, iI_add, iI_sub, iI_mul, iI_neg, iI_clamp, iI_nat, vin_i, iI_le, iI_lt, iI_eq, mn_i, mx_i, if_true, if_false, if_pos, if_neg, li_0, li_1, li_2, li_3, li_4, li_5, li_6, li_7, li_8, li_9, li_10, li_11, li_12, li_14, li_15, li_16, li_20, li_21, li_24, li_28, li_30, li_31, li_40, li_41, li_42, li_43, li_44, li_45, li_47, li_48, li_49, li_57, li_59, li_60, li_61, li_62, li_63, li_70, li_71, li_76, li_80, li_96, li_97, li_98, li_99, li_100, li_101, li_102, li_103, li_104, li_105, li_106, li_107, li_108, li_109, li_110, li_111, li_112, li_113, li_114, li_115, li_116, li_117, li_118, li_119, li_120, li_128, li_142, li_255, li_320, li_781, li_852, li_999, li_1000, li_2000, li_3000, li_9999, li_12345, li_65536, li_1000000, li_252645135, li_858993459, li_1103515245, li_1431655765]
            refine so_mono m1 ?_
            intro p hp
            rw [hp]
            simp (disch := omega) only [gd_t, so_some, so_bind, so_gd, so_none, Option.bind_some, iI_add, iI_sub, iI_mul, iI_neg, iI_clamp, iI_nat, vin_i, iI_le, iI_lt, iI_eq, mn_i, mx_i, if_true, if_false, if_pos, if_neg, li_0, li_1, li_2, li_3, li_4, li_5, li_6, li_7, li_8, li_9, li_10, li_11, li_12, li_14, li_15, li_16, li_20, li_21, li_24, li_28, li_30, li_31, li_40, li_41, li_42, li_43, li_44, li_45, li_47, li_48, li_49, li_57, li_59, li_60, li_61, li_62, li_63, li_70, li_71, li_76, li_80, li_96, li_97, li_98, li_99, li_100, li_101, li_102, li_103, li_104, li_105, li_106, li_107, li_108, li_109, li_110, li_111, li_112, li_113, li_114, li_115, li_116, li_117, li_118, li_119, li_120, li_128, li_142, li_255, li_320, li_781, li_852, li_999, li_1000, li_2000, li_3000, li_9999, li_12345, li_65536, li_1000000, li_252645135, li_858993459, li_1103515245, li_1431655765, nd]
        · rw [if_neg q41] at t41
          left
          refine ⟨k', by omega, by omega, fun t D draft ht D0 Dk => ?_, fun t nb b asked many q1 q2 q3 q4 q5 q6 hold weather T ht hn n1 hb LT => ?_⟩
          · obtain ⟨t, rfl⟩ : ∃ u, t = u + 1 := ⟨t - 1, by omega⟩
            have c1 := C t D draft (by omega) D0 (by omega)
            rw [cb]
            unfold fX4_readThing_B
            simp (disch := omega) only [gd_t, so_some, so_bind, so_gd, so_none, Option.bind_some, iI_add, iI_sub, iI_mul, iI_neg, iI_clamp, iI_nat, vin_i, iI_le, iI_lt, iI_eq, mn_i, mx_i, if_true, if_false, if_pos, if_neg, li_0, li_1, li_2, li_3, li_4, li_5, li_6, li_7, li_8, li_9, li_10, li_11, li_12, li_14, li_15, li_16, li_20, li_21, li_24, li_28, li_30, li_31, li_40, li_41, li_42, li_43, li_44, li_45, li_47, li_48, li_49, li_57, li_59, li_60, li_61, li_62, li_63, li_70, li_71, li_76, li_80, li_96, li_97, li_98, li_99, li_100, li_101, li_102, li_103, li_104, li_105, li_106, li_107, li_108, li_109, li_110, li_111, li_112, li_113, li_114, li_115, li_116, li_117, li_118, li_119, li_120, li_128, li_142, li_255, li_320, li_781, li_852, li_999, li_1000, li_2000, li_3000, li_9999, li_12345, li_65536, li_1000000, li_252645135, li_858993459, li_1103515245, li_1431655765, p1, sk]
            refine so_mono c1 ?_
            rintro o ⟨o1, o2, o3, o4⟩
            rw [o1, o3]
            simp (disch := omega) only [gd_t, so_some, so_bind, so_gd, so_none, Option.bind_some, iI_add, iI_sub, iI_mul, iI_neg, iI_clamp, iI_nat, vin_i, iI_le, iI_lt, iI_eq, mn_i, mx_i, if_true, if_false, if_pos, if_neg, li_0, li_1, li_2, li_3, li_4, li_5, li_6, li_7, li_8, li_9, li_10, li_11, li_12, li_14, li_15, li_16, li_20, li_21, li_24, li_28, li_30, li_31, li_40, li_41, li_42, li_43, li_44, li_45, li_47, li_48, li_49, li_57, li_59, li_60, li_61, li_62, li_63, li_70, li_71, li_76, li_80, li_96, li_97, li_98, li_99, li_100, li_101, li_102, li_103, li_104, li_105, li_106, li_107, li_108, li_109, li_110, li_111, li_112, li_113, li_114, li_115, li_116, li_117, li_118, li_119, li_120, li_128, li_142, li_255, li_320, li_781, li_852, li_999, li_1000, li_2000, li_3000, li_9999, li_12345, li_65536, li_1000000, li_252645135, li_858993459, li_1103515245, li_1431655765, t41]
            exact ⟨(by first | rfl | trivial), (by first | rfl | trivial), D + c.length, by omega, by omega, o2⟩
          · obtain ⟨t, rfl⟩ : ∃ u, t = u + 1 := ⟨t - 1, by omega⟩
            have m1 := M t nb b asked many q1 q2 q3 q4 q5 q6 hold weather T (by omega) hn n1 hb LT
            have ps := m_passesL hT (l := l) (tp := 40) (k := k') (c := 41) hb (by omega) l0 l1 (by omega) (by omega) (by omega) hn n1 (by omega) (by omega)
            rw [if_neg q41] at ps
            have nd : fX12_need nb (iI l) (iI 40) (iI k') (iI (-1)) b (iI 41) = some (iI k', iI k') := by
              unfold fX12_need
              simp (disch := omega) only [gd_t, so_some, so_bind, so_gd, so_none, Option.bind_some, iI_add, iI_sub, iI_mul, iI_neg, iI_clamp, iI_nat, vin_i, iI_le, iI_lt, iI_eq, mn_i, mx_i, if_true, if_false, if_pos, if_neg, li_0, li_1, li_2, li_3, li_4, li_5, li_6, li_7, li_8, li_9, li_10, li_11, li_12, li_14, li_15, li_16, li_20, li_21, li_24, li_28, li_30, li_31, li_40, li_41, li_42, li_43, li_44, li_45, li_47, li_48, li_49, li_57, li_59, li_60, li_61, li_62, li_63, li_70, li_71, li_76, li_80, li_96, li_97, li_98, li_99, li_100, li_101, li_102, li_103, li_104, li_105, li_106, li_107, li_108, li_109, li_110, li_111, li_112, li_113, li_114, li_115, li_116, li_117, li_118, li_119, li_120, li_128, li_142, li_255, li_320, li_781, li_852, li_999, li_1000, li_2000, li_3000, li_9999, li_12345, li_65536, li_1000000, li_252645135, li_858993459, li_1103515245, li_1431655765, ps, m_fault_t]
            rw [mb t nb b asked many q1 q2 q3 q4 q5 q6 hold weather hn n1 hb, if_pos s1]
            simp (disch := omega) only [gd_t, so_some, so_bind, so_gd, so_none, Option.bind_some, iI_add, iI_sub, iI_mul, iI_neg, iI_clamp, iI_nat, vin_i, iI_le, iI_lt, iI_eq, mn_i, mx_i, if_true, if_false, if_pos, if_neg, li_0, li_1, li_2, li_3, li_4, li_5, li_6, li_7, li_8, li_9, li_10, li_11, li_12, li_14, li_15, li_16, li_20, li_21, li_24, li_28, li_30, li_31, li_40, li_41, li_42, li_43, li_44, li_45, li_47, li_48, li_49, li_57, li_59, li_60, li_61, li_62, li_63, li_70, li_71, li_76, li_80, li_96, li_97, li_98, li_99, li_100, li_101, li_102, li_103, li_104, li_105, li_106, li_107, li_108, li_109, li_110, li_111, li_112, li_113, li_114, li_115, li_116, li_117, li_118, li_119, li_120, li_128, li_142, li_255, li_320, li_781, li_852, li_999, li_1000, li_2000, li_3000, li_9999, li_12345, li_65536, li_1000000, li_252645135, li_858993459, li_1103515245, li_1431655765]
            refine so_mono m1 ?_
            intro p hp
            rw [hp]
            simp (disch := omega) only [gd_t, so_some, so_bind, so_gd, so_none, Option.bind_some, iI_add, iI_sub, iI_mul, iI_neg, iI_clamp, iI_nat, vin_i, iI_le, iI_lt, iI_eq, mn_i, mx_i, if_true, if_false, if_pos, if_neg, li_0, li_1, li_2, li_3, li_4, li_5, li_6, li_7, li_8, li_9, li_10, li_11, li_12, li_14, li_15, li_16, li_20, li_21, li_24, li_28, li_30, li_31, li_40, li_41, li_42, li_43, li_44, li_45, li_47, li_48, li_49, li_57, li_59, li_60, li_61, li_62, li_63, li_70, li_71, li_76, li_80, li_96, li_97, li_98, li_99, li_100, li_101, li_102, li_103, li_104, li_105, li_106, li_107, li_108, li_109, li_110, li_111, li_112, li_113, li_114, li_115, li_116, li_117, li_118, li_119, li_120, li_128, li_142, li_255, li_320, li_781, li_852, li_999, li_1000, li_2000, li_3000, li_9999, li_12345, li_65536, li_1000000, li_252645135, li_858993459, li_1103515245, li_1431655765, nd]
    · left
      have hx : ixO X = -1 := by rw [q40]; rfl
      refine ⟨k, k0, by omega, fun t D draft ht D0 Dk => ?_, fun t nb b asked many q1 q2 q3 q4 q5 q6 hold weather T ht hn n1 hb LT => ?_⟩
      · obtain ⟨t, rfl⟩ : ∃ u, t = u + 1 := ⟨t - 1, by omega⟩
        rw [cb]
        unfold fX4_readThing_B
        simp (disch := omega) only [gd_t, so_some, so_bind, so_gd, so_none, Option.bind_some, iI_add, iI_sub, iI_mul, iI_neg, iI_clamp, iI_nat, vin_i, iI_le, iI_lt, iI_eq, mn_i, mx_i, if_true, if_false, if_pos, if_neg, li_0, li_1, li_2, li_3, li_4, li_5, li_6, li_7, li_8, li_9, li_10, li_11, li_12, li_14, li_15, li_16, li_20, li_21, li_24, li_28, li_30, li_31, li_40, li_41, li_42, li_43, li_44, li_45, li_47, li_48, li_49, li_57, li_59, li_60, li_61, li_62, li_63, li_70, li_71, li_76, li_80, li_96, li_97, li_98, li_99, li_100, li_101, li_102, li_103, li_104, li_105, li_106, li_107, li_108, li_109, li_110, li_111, li_112, li_113, li_114, li_115, li_116, li_117, li_118, li_119, li_120, li_128, li_142, li_255, li_320, li_781, li_852, li_999, li_1000, li_2000, li_3000, li_9999, li_12345, li_65536, li_1000000, li_252645135, li_858993459, li_1103515245, li_1431655765, p1]
        exact ⟨(by first | rfl | trivial), (by first | rfl | trivial), D, D0, by omega, (by first | rfl | trivial)⟩
      · obtain ⟨t, rfl⟩ : ∃ u, t = u + 1 := ⟨t - 1, by omega⟩
        rw [mb t nb b asked many q1 q2 q3 q4 q5 q6 hold weather hn n1 hb, if_pos s1, m_J67_no x.1 x.2 (by unfold dg; omega) hx k0 (by omega)]
        simp (disch := omega) only [gd_t, so_some, so_bind, so_gd, so_none, Option.bind_some, iI_add, iI_sub, iI_mul, iI_neg, iI_clamp, iI_nat, vin_i, iI_le, iI_lt, iI_eq, mn_i, mx_i, if_true, if_false, if_pos, if_neg, li_0, li_1, li_2, li_3, li_4, li_5, li_6, li_7, li_8, li_9, li_10, li_11, li_12, li_14, li_15, li_16, li_20, li_21, li_24, li_28, li_30, li_31, li_40, li_41, li_42, li_43, li_44, li_45, li_47, li_48, li_49, li_57, li_59, li_60, li_61, li_62, li_63, li_70, li_71, li_76, li_80, li_96, li_97, li_98, li_99, li_100, li_101, li_102, li_103, li_104, li_105, li_106, li_107, li_108, li_109, li_110, li_111, li_112, li_113, li_114, li_115, li_116, li_117, li_118, li_119, li_120, li_128, li_142, li_255, li_320, li_781, li_852, li_999, li_1000, li_2000, li_3000, li_9999, li_12345, li_65536, li_1000000, li_252645135, li_858993459, li_1103515245, li_1431655765]
  · have n40 : ¬ iI (sb X) = 40 := fun w => q40 ((sb_c x.1 x.2 (by omega) (by omega)).1 w)
    by_cases qg : dg X
    · have qg' := qg
      unfold dg at qg'
      obtain ⟨v, k', e1, e2, e3, e4, e5, e6⟩ := c_num3 hT ha l0 l1 k0 (by rw [hX]; exact qg)
      right
      refine ⟨k', [v], fun _ => iI v, e1, e2, by show ((1 : Nat) : Int) ≤ _; omega, Cd.num e3 e4, fun t D draft ht D0 Dk => ?_, fun t nb b asked many q1 q2 q3 q4 q5 q6 hold weather T ht hn n1 hb LT => ?_⟩
      · obtain ⟨t, rfl⟩ : ∃ u, t = u + 1 := ⟨t - 1, by omega⟩
        rw [cb]
        unfold fX4_readThing_B
        have pt := c_put D0 (show D < 40 by omega) draft v
        simp (disch := omega) only [gd_t, so_some, so_bind, so_gd, so_none, Option.bind_some, iI_add, iI_sub, iI_mul, iI_neg, iI_clamp, iI_nat, vin_i, iI_le, iI_lt, iI_eq, mn_i, mx_i, if_true, if_false, if_pos, if_neg, li_0, li_1, li_2, li_3, li_4, li_5, li_6, li_7, li_8, li_9, li_10, li_11, li_12, li_14, li_15, li_16, li_20, li_21, li_24, li_28, li_30, li_31, li_40, li_41, li_42, li_43, li_44, li_45, li_47, li_48, li_49, li_57, li_59, li_60, li_61, li_62, li_63, li_70, li_71, li_76, li_80, li_96, li_97, li_98, li_99, li_100, li_101, li_102, li_103, li_104, li_105, li_106, li_107, li_108, li_109, li_110, li_111, li_112, li_113, li_114, li_115, li_116, li_117, li_118, li_119, li_120, li_128, li_142, li_255, li_320, li_781, li_852, li_999, li_1000, li_2000, li_3000, li_9999, li_12345, li_65536, li_1000000, li_252645135, li_858993459, li_1103515245, li_1431655765, p1, e5, pt]
        exact ⟨(by first | rfl | trivial), (by first | rfl | trivial), (by first | rfl | trivial), Lay.one D D0 v draft⟩
      · obtain ⟨t, rfl⟩ : ∃ u, t = u + 1 := ⟨t - 1, by omega⟩
        rw [mb t nb b asked many q1 q2 q3 q4 q5 q6 hold weather hn n1 hb, if_neg n40, m_J67_num x.1 x.2 qg (e6 nb b hb hn n1), so_some]
    · have qg' := qg
      unfold dg at qg'
      have fall : ∀ (D : Int) (draft : Nat → Int32) (t : Nat), frul (t + 1) 4 (iI D) draft (iI k) (iI (min l 40)) a (iI d) = fX4_readThing_J71 (iI X) (iI D) draft (iI k) := by
        intro D draft t
        rw [cb]
        unfold fX4_readThing_B
        by_cases q3 : X < 48
        · simp (disch := omega) only [gd_t, so_some, so_bind, so_gd, so_none, Option.bind_some, iI_add, iI_sub, iI_mul, iI_neg, iI_clamp, iI_nat, vin_i, iI_le, iI_lt, iI_eq, mn_i, mx_i, if_true, if_false, if_pos, if_neg, li_0, li_1, li_2, li_3, li_4, li_5, li_6, li_7, li_8, li_9, li_10, li_11, li_12, li_14, li_15, li_16, li_20, li_21, li_24, li_28, li_30, li_31, li_40, li_41, li_42, li_43, li_44, li_45, li_47, li_48, li_49, li_57, li_59, li_60, li_61, li_62, li_63, li_70, li_71, li_76, li_80, li_96, li_97, li_98, li_99, li_100, li_101, li_102, li_103, li_104, li_105, li_106, li_107, li_108, li_109, li_110, li_111, li_112, li_113, li_114, li_115, li_116, li_117, li_118, li_119, li_120, li_128, li_142, li_255, li_320, li_781, li_852, li_999, li_1000, li_2000, li_3000, li_9999, li_12345, li_65536, li_1000000, li_252645135, li_858993459, li_1103515245, li_1431655765, p1]
        · simp (disch := omega) only [gd_t, so_some, so_bind, so_gd, so_none, Option.bind_some, iI_add, iI_sub, iI_mul, iI_neg, iI_clamp, iI_nat, vin_i, iI_le, iI_lt, iI_eq, mn_i, mx_i, if_true, if_false, if_pos, if_neg, li_0, li_1, li_2, li_3, li_4, li_5, li_6, li_7, li_8, li_9, li_10, li_11, li_12, li_14, li_15, li_16, li_20, li_21, li_24, li_28, li_30, li_31, li_40, li_41, li_42, li_43, li_44, li_45, li_47, li_48, li_49, li_57, li_59, li_60, li_61, li_62, li_63, li_70, li_71, li_76, li_80, li_96, li_97, li_98, li_99, li_100, li_101, li_102, li_103, li_104, li_105, li_106, li_107, li_108, li_109, li_110, li_111, li_112, li_113, li_114, li_115, li_116, li_117, li_118, li_119, li_120, li_128, li_142, li_255, li_320, li_781, li_852, li_999, li_1000, li_2000, li_3000, li_9999, li_12345, li_65536, li_1000000, li_252645135, li_858993459, li_1103515245, li_1431655765, p1]
      by_cases qx : 0 ≤ ixO X
      · have xb : 98 ≤ X ∧ X ≤ 120 := by
          unfold ixO at qx
          by_cases w : 98 ≤ X ∧ X ≤ 120
          · exact w
          · rw [if_neg (by omega), if_neg (by omega), if_neg (by omega), if_neg (by omega), if_neg (by omega), if_neg (by omega), if_neg (by omega), if_neg (by omega)] at qx
            omega
        have x7 : ixO X ≤ 7 := ix_7 X
        have kk := hk_lt (show 0 ≤ X by omega) hX
        right
        refine ⟨k + 1, [1000 + ixO X], fun T => iI (T (ixO X)), by omega, by omega, by show ((1 : Nat) : Int) ≤ _; omega, Cd.thing qx x7, fun t D draft ht D0 Dk => ?_, fun t nb b asked many q1 q2 q3 q4 q5 q6 hold weather T ht hn n1 hb LT => ?_⟩
        · obtain ⟨t, rfl⟩ : ∃ u, t = u + 1 := ⟨t - 1, by omega⟩
          have pt := c_put D0 (show D < 40 by omega) draft (1000 + ixO X)
          rw [fall]
          unfold fX4_readThing_J71 fX4_readThing_J86
          simp only [ix_i (show 0 ≤ X by omega) x.2, li_65536]
          simp (disch := omega) only [gd_t, so_some, so_bind, so_gd, so_none, Option.bind_some, iI_add, iI_sub, iI_mul, iI_neg, iI_clamp, iI_nat, vin_i, iI_le, iI_lt, iI_eq, mn_i, mx_i, if_true, if_false, if_pos, if_neg, li_0, li_1, li_2, li_3, li_4, li_5, li_6, li_7, li_8, li_9, li_10, li_11, li_12, li_14, li_15, li_16, li_20, li_21, li_24, li_28, li_30, li_31, li_40, li_41, li_42, li_43, li_44, li_45, li_47, li_48, li_49, li_57, li_59, li_60, li_61, li_62, li_63, li_70, li_71, li_76, li_80, li_96, li_97, li_98, li_99, li_100, li_101, li_102, li_103, li_104, li_105, li_106, li_107, li_108, li_109, li_110, li_111, li_112, li_113, li_114, li_115, li_116, li_117, li_118, li_119, li_120, li_128, li_142, li_255, li_320, li_781, li_852, li_999, li_1000, li_2000, li_3000, li_9999, li_12345, li_65536, li_1000000, li_252645135, li_858993459, li_1103515245, li_1431655765, sk, pt]
          exact ⟨(by first | rfl | trivial), (by first | rfl | trivial), (by first | rfl | trivial), Lay.one D D0 _ draft⟩
        · obtain ⟨t, rfl⟩ : ∃ u, t = u + 1 := ⟨t - 1, by omega⟩
          rw [mb t nb b asked many q1 q2 q3 q4 q5 q6 hold weather hn n1 hb, if_neg n40, m_J67_yes LT x.1 x.2 qx k0 (by omega), so_some]
      · have hx : ixO X = -1 := (ix_n X).resolve_left qx
        left
        refine ⟨k, k0, by omega, fun t D draft ht D0 Dk => ?_, fun t nb b asked many q1 q2 q3 q4 q5 q6 hold weather T ht hn n1 hb LT => ?_⟩
        · obtain ⟨t, rfl⟩ : ∃ u, t = u + 1 := ⟨t - 1, by omega⟩
          rw [fall]
          unfold fX4_readThing_J71 fX4_readThing_J86
          by_cases q0 : 0 ≤ X
          · simp only [ix_i q0 x.2, hx]
            simp (disch := omega) only [gd_t, so_some, so_bind, so_gd, so_none, Option.bind_some, iI_add, iI_sub, iI_mul, iI_neg, iI_clamp, iI_nat, vin_i, iI_le, iI_lt, iI_eq, mn_i, mx_i, if_true, if_false, if_pos, if_neg, li_0, li_1, li_2, li_3, li_4, li_5, li_6, li_7, li_8, li_9, li_10, li_11, li_12, li_14, li_15, li_16, li_20, li_21, li_24, li_28, li_30, li_31, li_40, li_41, li_42, li_43, li_44, li_45, li_47, li_48, li_49, li_57, li_59, li_60, li_61, li_62, li_63, li_70, li_71, li_76, li_80, li_96, li_97, li_98, li_99, li_100, li_101, li_102, li_103, li_104, li_105, li_106, li_107, li_108, li_109, li_110, li_111, li_112, li_113, li_114, li_115, li_116, li_117, li_118, li_119, li_120, li_128, li_142, li_255, li_320, li_781, li_852, li_999, li_1000, li_2000, li_3000, li_9999, li_12345, li_65536, li_1000000, li_252645135, li_858993459, li_1103515245, li_1431655765]
            exact ⟨(by first | rfl | trivial), (by first | rfl | trivial), D, D0, by omega, (by first | rfl | trivial)⟩
          · simp (disch := omega) only [gd_t, so_some, so_bind, so_gd, so_none, Option.bind_some, iI_add, iI_sub, iI_mul, iI_neg, iI_clamp, iI_nat, vin_i, iI_le, iI_lt, iI_eq, mn_i, mx_i, if_true, if_false, if_pos, if_neg, li_0, li_1, li_2, li_3, li_4, li_5, li_6, li_7, li_8, li_9, li_10, li_11, li_12, li_14, li_15, li_16, li_20, li_21, li_24, li_28, li_30, li_31, li_40, li_41, li_42, li_43, li_44, li_45, li_47, li_48, li_49, li_57, li_59, li_60, li_61, li_62, li_63, li_70, li_71, li_76, li_80, li_96, li_97, li_98, li_99, li_100, li_101, li_102, li_103, li_104, li_105, li_106, li_107, li_108, li_109, li_110, li_111, li_112, li_113, li_114, li_115, li_116, li_117, li_118, li_119, li_120, li_128, li_142, li_255, li_320, li_781, li_852, li_999, li_1000, li_2000, li_3000, li_9999, li_12345, li_65536, li_1000000, li_252645135, li_858993459, li_1103515245, li_1431655765]
            exact ⟨(by first | rfl | trivial), (by first | rfl | trivial), D, D0, by omega, (by first | rfl | trivial)⟩
        · obtain ⟨t, rfl⟩ : ∃ u, t = u + 1 := ⟨t - 1, by omega⟩
          rw [mb t nb b asked many q1 q2 q3 q4 q5 q6 hold weather hn n1 hb, if_neg n40, m_J67_no x.1 x.2 qg hx k0 (by omega), so_some]
