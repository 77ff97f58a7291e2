theorem s_rule {n : Int} {σ : CS} {τ : MS} (h : R n σ τ) (hn : n < 1000) : Ok n (x_rule σ) (y_rule τ) := by
  obtain ⟨n0, g, c, m, G⟩ := h
  obtain ⟨c1, c2, c3, c4, c5, c6, c7, c8, c9⟩ := c
  obtain ⟨m1, m2, m3, m4, m5, m6, m7, m8, m9⟩ := m
  have e := G.1.1
  have hS := G.2.2.1
  have a7 := hS.2.2
  have g6 := G.2.2.2.2.2.1
  have em : ∀ {σ' : CS} {τ' : MS}, RC ((g.1, g.2.1, g.2.2.1, g.2.2.2.1, g.2.2.2.2.1, g.2.2.2.2.2.1, g.2.2.2.2.2.2.1, 0, g.2.2.2.2.2.2.2.2.1, g.2.2.2.2.2.2.2.2.2.1, g.2.2.2.2.2.2.2.2.2.2.1, g.2.2.2.2.2.2.2.2.2.2.2.1, g.2.2.2.2.2.2.2.2.2.2.2.2.1, g.2.2.2.2.2.2.2.2.2.2.2.2.2.1, g.2.2.2.2.2.2.2.2.2.2.2.2.2.2.1, g.2.2.2.2.2.2.2.2.2.2.2.2.2.2.2) : GH) σ' → RM ((g.1, g.2.1, g.2.2.1, g.2.2.2.1, g.2.2.2.2.1, g.2.2.2.2.2.1, g.2.2.2.2.2.2.1, 0, g.2.2.2.2.2.2.2.2.1, g.2.2.2.2.2.2.2.2.2.1, g.2.2.2.2.2.2.2.2.2.2.1, g.2.2.2.2.2.2.2.2.2.2.2.1, g.2.2.2.2.2.2.2.2.2.2.2.2.1, g.2.2.2.2.2.2.2.2.2.2.2.2.2.1, g.2.2.2.2.2.2.2.2.2.2.2.2.2.2.1, g.2.2.2.2.2.2.2.2.2.2.2.2.2.2.2) : GH) τ' → R (n + 1) σ' τ' := by
    intro σ' τ' c m
    obtain ⟨h1, h2, h3, h4, h5, h6, h7, h8, h9⟩ := G.mono (show n ≤ n + 1 by omega)
    exact ⟨by omega, _, c, m, h1, h2, h3, h4, h5, ⟨Int.le_refl 0, by show (0 : Int) ≤ 80; omega, h6.2.2⟩, h7, h8, h9⟩
  have er : ∀ (V : (Int → Int) → Int32) {σ' : CS} {τ' : MS}, RC ((Er g.1 (rv V), g.2.1, g.2.2.1, g.2.2.2.1, g.2.2.2.2.1, g.2.2.2.2.2.1, g.2.2.2.2.2.2.1, 0, g.2.2.2.2.2.2.2.2.1, g.2.2.2.2.2.2.2.2.2.1, g.2.2.2.2.2.2.2.2.2.2.1, g.2.2.2.2.2.2.2.2.2.2.2.1, g.2.2.2.2.2.2.2.2.2.2.2.2.1, g.2.2.2.2.2.2.2.2.2.2.2.2.2.1, g.2.2.2.2.2.2.2.2.2.2.2.2.2.2.1, g.2.2.2.2.2.2.2.2.2.2.2.2.2.2.2) : GH) σ' → RM ((Er g.1 (rv V), g.2.1, g.2.2.1, g.2.2.2.1, g.2.2.2.2.1, g.2.2.2.2.2.1, g.2.2.2.2.2.2.1, 0, g.2.2.2.2.2.2.2.2.1, g.2.2.2.2.2.2.2.2.2.1, g.2.2.2.2.2.2.2.2.2.2.1, g.2.2.2.2.2.2.2.2.2.2.2.1, g.2.2.2.2.2.2.2.2.2.2.2.2.1, g.2.2.2.2.2.2.2.2.2.2.2.2.2.1, g.2.2.2.2.2.2.2.2.2.2.2.2.2.2.1, g.2.2.2.2.2.2.2.2.2.2.2.2.2.2.2) : GH) τ' → R (n + 1) σ' τ' := by
    intro V σ' τ' c m
    obtain ⟨h1, h2, h3, h4, h5, h6, h7, h8, h9⟩ := G.mono (show n ≤ n + 1 by omega)
    exact ⟨by omega, _, c, m, h1.r V, h2, h3, h4, h5, ⟨Int.le_refl 0, by show (0 : Int) ≤ 80; omega, h6.2.2⟩, h7, h8, h9⟩
  unfold Ok x_rule y_rule
  rw [c6.2, m6.2]
  simp only [so_bind, so_some]
  by_cases z : g.2.2.2.2.2.2.2.1 = 0
  · refine so_mono (c_rule_0 z _ _ _ _ _ _ _) ?_
    rintro o ⟨o1, o2, o3⟩
    refine so_mono (m_rule_0 g6.2.2 z _ _ _ _ _ _ _ _ _ _ _ _ _ _ _ m6.1 _ _ _) ?_
    rintro p ⟨p1, p2, p3⟩
    refine ⟨o1.trans p1.symm, er (fun T => iI (T 0)) ⟨⟨c1.1, c1.2.1, c1.2.2.1, c1.2.2.2.1, ?_⟩, c2, c3, c4, c5, ⟨c6.1, o3⟩, c7, c8, c9⟩ ⟨⟨m1.1, m1.2.1, m1.2.2.1, m1.2.2.2.1, ?_⟩, m2, m3, m4, m5, ⟨m6.1, p2⟩, m7, m8, m9⟩⟩
    · show RuC _ o.2.1 _
      rw [o2]
      exact ruC_none
    · show RuM _ p.2.2.2.2.2.2.2.2.1 _
      rw [p3]
      exact ruM_none
  · have P := pr_all g6.2.2 c6.1 g6.1 (by omega) 4 0 (by omega) (by omega) 0 (by omega) (by omega)
    have hb : Arr (min g.2.2.2.2.2.2.2.1 40) (τ.2.1 18) (fun i => sb (g.2.2.2.2.2.2.1 i)) := m6.1.le (by omega)
    rcases P with ⟨w, w0, w1, C, M⟩ | ⟨k', c, V, e1, e2, e3, e4, C, M⟩
    · refine so_mono (P := fun o => o.1 = iI (-1 - w) ∧ o.2.1 = (σ.1 19) ∧ o.2.2.2.1 = iI 0 ∧ o.2.2.2.2.2.2.2 = (σ.2.1 17)) (c_rule_n rfl (by omega) (by omega) _ _ _ _ _ _ _ (C 30 0 (σ.2.1 18) (by omega) (by omega) (by omega)) ?_ ?_ ?_) ?_
      · rintro o ⟨o1, o2, -⟩ -
        exact ⟨by rw [o2]; exact iI_sub (-1) w, rfl, rfl, rfl⟩
      · rintro o ⟨o1, o2, -⟩ q
        exact absurd o1 q
      · rintro o ⟨o1, o2, -⟩ q
        exact absurd o1 q
      · rintro o ⟨o1, o2, o3, o4⟩
        refine so_mono (P := fun p => p.1 = iI (-1 - w) ∧ p.2.1 = iI 0 ∧ p.2.2.2.2.2.2.2.2.1 = (τ.1 15) ∧ p.2.2.2.2.2.2.2.2.2.2 = (τ.2.1 17)) (m_rule_n (by omega) (by omega) _ _ _ _ _ _ _ _ _ _ _ _ _ _ _ _ _ _ _ (M 80 80 (τ.2.1 18) (iI 0) (τ.1 24) (τ.1 2) (τ.1 4) (τ.1 1) (τ.1 5) (τ.1 0) (τ.1 3) (τ.2.1 7) (τ.2.1 23) (fun _ => 0) (by omega) (by omega) (by omega) hb ltr_0) (fun p hp => ⟨w, Or.inl hp, w0, w1, fun _ _ _ _ _ _ => ⟨rfl, rfl, rfl, rfl⟩⟩)) ?_
        rintro p ⟨p1, p2, p3, p4⟩
        refine ⟨o1.trans p1.symm, em ⟨⟨c1.1, c1.2.1, c1.2.2.1, c1.2.2.2.1, ?_⟩, c2, c3, c4, c5, ⟨c6.1, o3⟩, c7, c8, c9⟩ ⟨⟨m1.1, m1.2.1, m1.2.2.1, m1.2.2.2.1, ?_⟩, m2, m3, m4, m5, ⟨m6.1, p2⟩, m7, m8, m9⟩⟩
        · show RuC _ o.2.1 o.2.2.2.2.2.2.2
          rw [o2, o4]
          exact c1.2.2.2.2
        · show RuM _ p.2.2.2.2.2.2.2.2.1 p.2.2.2.2.2.2.2.2.2.2
          rw [p3, p4]
          exact m1.2.2.2.2
    · by_cases qe : k' = g.2.2.2.2.2.2.2.1
      · have tl40 : g.2.2.2.2.2.2.2.1 ≤ 40 := by omega
        refine so_mono (P := fun o => o.1 = iI 0 ∧ o.2.1 = iI c.length ∧ o.2.2.2.1 = iI 0 ∧ ∀ (j : Nat) (x : Int), c[j]? = some x → o.2.2.2.2.2.2.2 j = iI x) (c_rule_n rfl (by omega) (by omega) _ _ _ _ _ _ _ (C 30 0 (σ.2.1 18) (by omega) (by omega) (by omega)) ?_ ?_ ?_) ?_
        · rintro o ⟨o1, -⟩ q
          rw [o1] at q
          exact absurd q (by decide)
        · rintro o ⟨o1, o2, o3, -⟩ - q
          exact absurd (o3.trans (by rw [qe])) q
        · rintro o ⟨o1, o2, o3, o4⟩ - -
          refine ⟨rfl, by show o.2.1 = _; rw [o2, Int.zero_add], rfl, fun j x hx => ?_⟩
          have hj : j < c.length := by
            by_cases q : j < c.length
            · exact q
            · rw [List.getElem?_eq_none (by omega)] at hx
              cases hx
          show cpy 40 o.2.2.1 _ j = _
          rw [cpy_lt (by omega)]
          have := o4.2 j x hx
          rw [show (0 : Int).toNat + j = j by omega] at this
          exact this
        · rintro o ⟨o1, o2, o3, o4⟩
          have Mk' := M 80 80 (τ.2.1 18) (iI 0) (τ.1 24) (τ.1 2) (τ.1 4) (τ.1 1) (τ.1 5) (τ.1 0) (τ.1 3) (τ.2.1 7) (τ.2.1 23) (fun _ => 0) (by omega) (by omega) (by omega) hb ltr_0
          rw [qe] at Mk'
          refine so_mono (m_rule_ok g6.2.2 (by omega) tl40 _ _ _ _ _ _ _ _ _ _ _ _ _ _ _ m6.1 _ _ _ Mk') ?_
          rintro p ⟨p1, p2, p3, p4⟩
          refine ⟨o1.trans p1.symm, er V ⟨⟨c1.1, c1.2.1, c1.2.2.1, c1.2.2.2.1, ?_⟩, c2, c3, c4, c5, ⟨c6.1, o3⟩, c7, c8, c9⟩ ⟨⟨m1.1, m1.2.1, m1.2.2.1, m1.2.2.2.1, ?_⟩, m2, m3, m4, m5, ⟨m6.1, p2⟩, m7, m8, m9⟩⟩
          · show RuC _ o.2.1 o.2.2.2.2.2.2.2
            rw [o2]
            exact ruC_code e4 (by omega) o4
          · show RuM _ p.2.2.2.2.2.2.2.2.1 p.2.2.2.2.2.2.2.2.2.2
            rw [p3]
            exact ruM_text (by omega) tl40 (by omega) M p4
      · refine so_mono (P := fun o => o.1 = iI (-1 - k') ∧ o.2.1 = (σ.1 19) ∧ o.2.2.2.1 = iI 0 ∧ o.2.2.2.2.2.2.2 = (σ.2.1 17)) (c_rule_n rfl (by omega) (by omega) _ _ _ _ _ _ _ (C 30 0 (σ.2.1 18) (by omega) (by omega) (by omega)) ?_ ?_ ?_) ?_
        · rintro o ⟨o1, -⟩ q
          rw [o1] at q
          exact absurd q (by decide)
        · rintro o ⟨o1, o2, o3, -⟩ - -
          exact ⟨by rw [o3]; exact iI_sub (-1) k', rfl, rfl, rfl⟩
        · rintro o ⟨o1, o2, o3, -⟩ - q
          rw [o3, iI_eq (by omega) (by omega) (by omega) (by omega)] at q
          exact absurd q qe
        · rintro o ⟨o1, o2, o3, o4⟩
          refine so_mono (P := fun p => p.1 = iI (-1 - k') ∧ p.2.1 = iI 0 ∧ p.2.2.2.2.2.2.2.2.1 = (τ.1 15) ∧ p.2.2.2.2.2.2.2.2.2.2 = (τ.2.1 17)) (m_rule_n (by omega) (by omega) _ _ _ _ _ _ _ _ _ _ _ _ _ _ _ _ _ _ _ (M 80 80 (τ.2.1 18) (iI 0) (τ.1 24) (τ.1 2) (τ.1 4) (τ.1 1) (τ.1 5) (τ.1 0) (τ.1 3) (τ.2.1 7) (τ.2.1 23) (fun _ => 0) (by omega) (by omega) (by omega) hb ltr_0) (fun p hp => ⟨k', Or.inr (by rw [hp]; exact ⟨rfl, rfl, by omega⟩), by omega, by omega, fun _ _ _ _ _ _ => ⟨rfl, rfl, rfl, rfl⟩⟩)) ?_
          rintro p ⟨p1, p2, p3, p4⟩
          refine ⟨o1.trans p1.symm, em ⟨⟨c1.1, c1.2.1, c1.2.2.1, c1.2.2.2.1, ?_⟩, c2, c3, c4, c5, ⟨c6.1, o3⟩, c7, c8, c9⟩ ⟨⟨m1.1, m1.2.1, m1.2.2.1, m1.2.2.2.1, ?_⟩, m2, m3, m4, m5, ⟨m6.1, p2⟩, m7, m8, m9⟩⟩
          · show RuC _ o.2.1 o.2.2.2.2.2.2.2
            rw [o2, o4]
            exact c1.2.2.2.2
          · show RuM _ p.2.2.2.2.2.2.2.2.1 p.2.2.2.2.2.2.2.2.2.2
            rw [p3, p4]
            exact m1.2.2.2.2
