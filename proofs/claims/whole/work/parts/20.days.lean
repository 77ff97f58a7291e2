theorem zb_sl {E : EN} (G : EnG E) {A : Int → Int} (Z : ZB E.1 A) {s bl x : Int} (hs : 0 ≤ s) (hs2 : s < 2 * E.1) (hb : 0 ≤ bl) (hb2 : bl < E.1) : ZB E.1 (slA E A s bl x) := by
  have b1 := G.2.2.1 s hs hs2
  have g0 := G.1
  have u1 : ZB E.1 (upI A s 0) := Z.up (by omega) (by omega) (by omega) g0.2
  unfold slA
  split
  · have u2 : ZB E.1 (upI (upI A s 0) (14 + E.2.2.1 s) (min 999 (A (14 + E.2.2.1 s) + A s))) := u1.up (by omega) (by omega) (by omega) g0.2
    split
    · rename_i _ h2
      exact u2.up (by omega) (by omega) (fun _ _ => Or.inr ⟨bl, E.2.2.1 s, by omega⟩) g0.2
    · exact u2
  · exact u1
theorem zb_fa {h v : Int} (h7 : h ≤ 7) {A : Int → Int} (Z : ZB h A) : ZB h (faA h v A) := by
  refine ⟨fun i i0 i1 => ?_, fun i i0 i1 => ?_, fun i j i0 i1 j0 j1 q => ?_⟩
  · by_cases q : 0 ≤ i
    · unfold faA; rw [if_neg (by omega)]; exact Z.1 i i0 i1
    · unfold faA; rw [if_neg (by omega)]; exact Z.1 i i0 i1
  · unfold faA; rw [if_neg (by omega)]; exact Z.2.1 i i0 i1
  · unfold faA; rw [if_neg (by omega)]; exact Z.2.2 i j i0 i1 j0 j1 q
theorem zb_dyS {E : EN} (G : EnG E) {th : Int} {t : WS} {k : Int} (Z : ZB E.1 t.1) (h0 : 0 ≤ k) (h1 : k < 2 * E.1) : ZB E.1 (dyS E th t k).1 := by
  unfold dyS
  split
  · exact Z
  · exact zb_sl G Z h0 h1 (by omega) (by omega)
theorem zb_dyI {E : EN} (G : EnG E) {th : Int} : ∀ (m : Nat) (k : Int) (t : WS), 0 ≤ k → k + m = 2 * E.1 → ZB E.1 t.1 → ZB E.1 (dyI E th m k t).1
  | 0, k, t, h0, hk, Z => Z
  | m + 1, k, t, h0, hk, Z => zb_dyI G m (k + 1) (dyS E th t k) (by omega) (by omega) (zb_dyS G Z h0 (by omega))
theorem zb_dy {E : EN} (G : EnG E) {t : WS} (Z : ZB E.1 t.1) : ZB E.1 (dy E t).1 := by
  have g := G.1
  exact (zb_dyI G (th := thw E t.1) (2 * E.1).toNat 0 (dyF E t.1, t.2) (by omega) (by omega) (zb_fa g.2 Z)).up (by omega) (by omega) (by omega) g.2
theorem zb_dys {E : EN} (G : EnG E) : ∀ (n : Nat) {t : WS}, ZB E.1 t.1 → ZB E.1 (dys E n t).1
  | 0, _, Z => Z
  | n + 1, t, Z => zb_dys G n (t := dy E t) (zb_dy G Z)
/-- what is owed grows, by at most 99 a slide -/
theorem dyI_ow {E : EN} (G : EnG E) {th : Int} : ∀ (m : Nat) (k : Int) (t : WS), t.2.1 ≤ (dyI E th m k t).2.1 ∧ (dyI E th m k t).2.1 ≤ t.2.1 + 99 * m
  | 0, k, t => by show t.2.1 ≤ t.2.1 ∧ t.2.1 ≤ t.2.1 + 99 * ((0 : Nat) : Int); omega
  | m + 1, k, t => by
    have h := dyI_ow G (th := th) m (k + 1) (dyS E th t k)
    have d := slD_b G t.1 k (k / 2) 0
    have e : t.2.1 ≤ (dyS E th t k).2.1 ∧ (dyS E th t k).2.1 ≤ t.2.1 + 99 := by
      unfold dyS
      split
      · omega
      · show t.2.1 ≤ t.2.1 + slD E t.1 k (k / 2) 0 ∧ t.2.1 + slD E t.1 k (k / 2) 0 ≤ t.2.1 + 99
        omega
    show t.2.1 ≤ (dyI E th m (k + 1) (dyS E th t k)).2.1 ∧ (dyI E th m (k + 1) (dyS E th t k)).2.1 ≤ t.2.1 + 99 * ((m + 1 : Nat) : Int)
    omega
theorem dy_ow {E : EN} (G : EnG E) (t : WS) : t.2.1 ≤ (dy E t).2.1 ∧ (dy E t).2.1 ≤ t.2.1 + 1386 := by
  have h := dyI_ow G (th := thw E t.1) (2 * E.1).toNat 0 (dyF E t.1, t.2)
  have g := G.1
  have h : t.2.1 ≤ (dy E t).2.1 ∧ (dy E t).2.1 ≤ t.2.1 + 99 * ((2 * E.1).toNat : Int) := h
  omega
theorem dys_ow {E : EN} (G : EnG E) : ∀ (n : Nat) (t : WS), t.2.1 ≤ (dys E n t).2.1 ∧ (dys E n t).2.1 ≤ t.2.1 + 1386 * n
  | 0, t => by show t.2.1 ≤ t.2.1 ∧ t.2.1 ≤ t.2.1 + 1386 * ((0 : Nat) : Int); omega
  | n + 1, t => by
    have h := dys_ow G n (dy E t)
    have d := dy_ow G t
    show t.2.1 ≤ (dys E n (dy E t)).2.1 ∧ (dys E n (dy E t)).2.1 ≤ t.2.1 + 1386 * ((n + 1 : Nat) : Int)
    omega
theorem dyI_ob {E : EN} (G : EnG E) {th : Int} {b : Int} : ∀ (m : Nat) (k : Int) (t : WS), t.2.2 b ≤ (dyI E th m k t).2.2 b ∧ (dyI E th m k t).2.2 b ≤ t.2.2 b + 99 * m
  | 0, k, t => by show t.2.2 b ≤ t.2.2 b ∧ t.2.2 b ≤ t.2.2 b + 99 * ((0 : Nat) : Int); omega
  | m + 1, k, t => by
    have h := dyI_ob G (th := th) (b := b) m (k + 1) (dyS E th t k)
    have d := slD_b G t.1 k (k / 2) 0
    have e : t.2.2 b ≤ (dyS E th t k).2.2 b ∧ (dyS E th t k).2.2 b ≤ t.2.2 b + 99 := by
      unfold dyS
      split
      · omega
      · show t.2.2 b ≤ slB E t.1 t.2.2 k (k / 2) 0 b ∧ slB E t.1 t.2.2 k (k / 2) 0 b ≤ t.2.2 b + 99
        unfold slB
        split
        · by_cases q : b = k / 2
          · rw [q, upI_s]; omega
          · rw [upI_o _ q]; omega
        · omega
    show t.2.2 b ≤ (dyI E th m (k + 1) (dyS E th t k)).2.2 b ∧ (dyI E th m (k + 1) (dyS E th t k)).2.2 b ≤ t.2.2 b + 99 * ((m + 1 : Nat) : Int)
    omega
theorem dy_ob {E : EN} (G : EnG E) (t : WS) (b : Int) : t.2.2 b ≤ (dy E t).2.2 b ∧ (dy E t).2.2 b ≤ t.2.2 b + 1386 := by
  have h := dyI_ob G (th := thw E t.1) (b := b) (2 * E.1).toNat 0 (dyF E t.1, t.2)
  have g := G.1
  have h : t.2.2 b ≤ (dy E t).2.2 b ∧ (dy E t).2.2 b ≤ t.2.2 b + 99 * ((2 * E.1).toNat : Int) := h
  omega
theorem dys_ob {E : EN} (G : EnG E) (b : Int) : ∀ (n : Nat) (t : WS), t.2.2 b ≤ (dys E n t).2.2 b ∧ (dys E n t).2.2 b ≤ t.2.2 b + 1386 * n
  | 0, t => by show t.2.2 b ≤ t.2.2 b ∧ t.2.2 b ≤ t.2.2 b + 1386 * ((0 : Nat) : Int); omega
  | n + 1, t => by
    have h := dys_ob G b n (dy E t)
    have d := dy_ob G t b
    show t.2.2 b ≤ (dys E n (dy E t)).2.2 b ∧ (dys E n (dy E t)).2.2 b ≤ t.2.2 b + 1386 * ((n + 1 : Nat) : Int)
    omega
theorem td_eq (ho many size : Int32) (weather hold below rule : Nat → Int32) (N : Int32) : ∀ (f : Nat) (v : Int32) (rr : Nat) (len top at' wrong asked i1 i2 i3 i4 i5 i6 sm on si : Int32) (owedBy a : Nat → Int32),
    fX12_tellDays_L6 ho many size weather hold below rule N f v rr len top at' wrong asked i1 i2 i3 i4 i5 i6 sm on si owedBy a = fX12_goOn_L18 ho many size weather hold below rule N f v rr len top at' wrong asked i1 i2 i3 i4 i5 i6 sm on si owedBy a
  | 0, v, rr, len, top, at', wrong, asked, i1, i2, i3, i4, i5, i6, sm, on, si, owedBy, a => rfl
  | f + 1, v, rr, len, top, at', wrong, asked, i1, i2, i3, i4, i5, i6, sm, on, si, owedBy, a => by
    rw [fX12_tellDays_L6, fX12_goOn_L18]
    simp only [td_eq ho many size weather hold below rule N f]
theorem s_goOn {n : Int} {g : GH} {σ : CS} {τ : MS} (n0 : 0 ≤ n ∧ n < 1000) (c : RC g σ) (m : RM g τ) (G : RG n g) {P : Int} (q : 0 ≤ P ∧ P ≤ 60) : 
    So (fX11_goOn (σ.1 25) (σ.1 8) (σ.1 10) (σ.1 12) (σ.1 9) (σ.1 1) (σ.1 11) (σ.2.1 5) (σ.2.1 4) (σ.2.1 3) (σ.2.1 12) (σ.2.1 11) (σ.2.1 10) (σ.2.1 9) (σ.1 33) (σ.1 26) (σ.1 19) (σ.2.1 36) (σ.2.1 28) (σ.2.1 26) (σ.2.1 20) (σ.2.1 19) (σ.2.1 17) (σ.2.1 25) (σ.1 3) (σ.1 2) (σ.2.2.1 0) (σ.2.2.2 2) (σ.2.2.2 1) (σ.2.2.2 0) (iI P))
      (fun o => o.1 = iI (fdys g.1 P.toNat (fw0 g.2.2.1)).2.1 ∧ StC (dys g.1 P.toNat (ws0 g.2.2.1)).1 o.2.2.2.2.2.2.2.1 o.2.2.2.2.2.2.2.2.2.2.2.1 o.2.2.2.2.2.2.2.2.2.2.2.2.1 o.2.2.2.2.2.2.2.2.2.2.2.2.2.1 ∧
        Rw [iI (dys g.1 P.toNat (ws0 g.2.2.1)).2.1, iI (oPa g.1.1 (dys g.1 P.toNat (ws0 g.2.2.1)).1)] o.2.1 o.2.2.2.2.2.2.2.2.2.2.2.2.2.2.2.2.2.1 ∧
        HsC (if 0 < P then puU g.2.2.2.2.1 g.2.2.2.2.2.1 g.2.2.1 else g.2.2.2.2.1) (if 0 < P then puN g.2.2.2.2.2.1 else g.2.2.2.2.2.1) o.2.2.2.2.2.2.2.2.2.2.2.2.2.2.2.2.2.2.1 o.2.2.2.2.2.2.2.2.2.2.2.2.2.2.2.2.2.2.2.1 o.2.2.2.2.2.2.2.2.2.2.2.2.2.2.2.2.2.2.2.2.1 o.2.2.2.2.2.2.2.2.2.2.2.2.2.2.2.2.2.2.2.2.2.1 o.2.2.2.2.2.2.2.2.2.2.2.2.2.2.2.2.2.2.2.2.2.2.1 o.2.2.2.2.2.2.2.2.2.2.2.2.2.2.2.2.2.2.2.2.2.2.2) := by
  obtain ⟨c1, c2, c3, c4, c5, c6, c7, c8, c9⟩ := c
  have e := G.1.1
  have hS := G.2.2.1
  have a7 := hS.2.2
  unfold fX11_goOn
  simp only [so_bind]
  refine so_mono (c_startCall c3 _ _ _ _ _ _ _ _ _) ?_
  rintro o ⟨⟨o1, o2, o3, o4, o5⟩, hb⟩
  refine so_mono (c_goDays G.1 c1 (x := fw0 g.2.2.1) hS.1 q.1 (by omega) (by show g.2.2.1 70 + P < _; omega) ⟨o1, o2, o3, o4, c3, o5⟩ _ _) ?_
  rintro d ⟨d1, d2, d3, d4, ⟨d5, d6, d7, d8⟩, d9⟩
  rw [fdys_1] at d1 d5 d6 d7 d8
  have Z := zb_dys G.1 P.toNat (t := ws0 g.2.2.1) hS.2.1
  have sp := c_onPaths e.1 e.2 Z d7
  rw [d1, sp, so_some]
  refine so_mono (c_tell2 _ _ _ _) ?_
  intro t ht
  by_cases q2 : 0 < P
  · simp (disch := omega) only [gd_t, so_some, so_bind, so_gd, so_none, Option.bind_some, iI_add, iI_sub, iI_mul, iI_neg, iI_clamp, iI_nat, vin_i, iI_le, iI_lt, iI_eq, mn_i, mx_i, if_true, if_false, if_pos, if_neg, li_0, li_1, li_2, li_3, li_4, li_5, li_6, li_7, li_8, li_9, li_10, li_11, li_12, li_14, li_15, li_16, li_20, li_21, li_24, li_28, li_30, li_31, li_40, li_41, li_42, li_43, li_44, li_45, li_47, li_48, li_49, li_57, li_59, li_60, li_61, li_62, li_63, li_70, li_71, li_76, li_80, li_96, li_97, li_98, li_99, li_100, li_101, li_102, li_103, li_104, li_105, li_106, li_107, li_108, li_109, li_110, li_111, li_112, li_113, li_114, li_115, li_116, li_117, li_118, li_119, li_120, li_128, li_142, li_255, li_320, li_781, li_852, li_999, li_1000, li_2000, li_3000, li_9999, li_12345, li_65536, li_1000000, li_252645135, li_858993459, li_1103515245, li_1431655765]
    refine so_mono (c_push c5 hb) ?_
    intro p hp
    exact ⟨d2, ⟨d5, d6, d7, d8⟩, ht, hp⟩
  · simp (disch := omega) only [gd_t, so_some, so_bind, so_gd, so_none, Option.bind_some, iI_add, iI_sub, iI_mul, iI_neg, iI_clamp, iI_nat, vin_i, iI_le, iI_lt, iI_eq, mn_i, mx_i, if_true, if_false, if_pos, if_neg, li_0, li_1, li_2, li_3, li_4, li_5, li_6, li_7, li_8, li_9, li_10, li_11, li_12, li_14, li_15, li_16, li_20, li_21, li_24, li_28, li_30, li_31, li_40, li_41, li_42, li_43, li_44, li_45, li_47, li_48, li_49, li_57, li_59, li_60, li_61, li_62, li_63, li_70, li_71, li_76, li_80, li_96, li_97, li_98, li_99, li_100, li_101, li_102, li_103, li_104, li_105, li_106, li_107, li_108, li_109, li_110, li_111, li_112, li_113, li_114, li_115, li_116, li_117, li_118, li_119, li_120, li_128, li_142, li_255, li_320, li_781, li_852, li_999, li_1000, li_2000, li_3000, li_9999, li_12345, li_65536, li_1000000, li_252645135, li_858993459, li_1103515245, li_1431655765]
    exact ⟨d2, ⟨d5, d6, d7, d8⟩, ht, c5⟩
