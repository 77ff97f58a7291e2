/-! dig -/
theorem slA_s {E : EN} (G : EnG E) {A : Int → Int} {s bl x : Int} (s0 : 0 ≤ s) (s1 : s < 2 * E.1) (b0 : 0 ≤ bl) : slA E A s bl x s = 0 := by
  have g := G.1
  have e := G.2.2.1 s s0 s1
  unfold slA
  split
  · split
    · rw [upI_o _ (by omega), upI_o _ (by omega), upI_s]
    · rw [upI_o _ (by omega), upI_s]
  · rw [upI_s]
theorem slA_p {E : EN} (G : EnG E) {A : Int → Int} {s bl x b : Int} (s0 : 0 ≤ s) (s1 : s < 2 * E.1) (bl0 : 0 ≤ bl) (b0 : 0 ≤ b) (b1 : b < 7) : slA E A s bl x (14 + b) = if E.2.2.1 s < E.1 ∧ E.2.2.1 s = b then min 999 (A (14 + b) + A s) else A (14 + b) := by
  have g := G.1
  have e := G.2.2.1 s s0 s1
  by_cases q : E.2.2.1 s < E.1 ∧ E.2.2.1 s = b
  · rw [if_pos q]
    unfold slA
    rw [if_pos q.1]
    split
    · rw [upI_o _ (by omega), q.2, upI_s]
    · rw [q.2, upI_s]
  · rw [if_neg q]
    by_cases w : E.2.2.1 s = b
    · unfold slA
      rw [if_neg (fun z => q ⟨z, w⟩), upI_o _ (by omega)]
    · exact slA_hi (by omega) (by omega) (by omega)
def Dm (b : Int) (A A' : Int → Int) : Prop := (∀ i, 0 ≤ i → i < 14 → A' i = A i) ∧ A' 70 = A 70 ∧ A' (14 + b) ≤ A (14 + b)
theorem Dm_sl {E : EN} (G : EnG E) {b : Int} (b0 : 0 ≤ b) (b1 : b < 7) {A A' : Int → Int} (D : Dm b A A') {s bl x : Int} (s0 : 0 ≤ s) (s1 : s < 2 * E.1) (bl0 : 0 ≤ bl) (bl1 : bl < 7) : Dm b (slA E A s bl x) (slA E A' s bl x) := by
  have g := G.1
  have e := G.2.2.1 s s0 s1
  refine ⟨fun i i0 i1 => ?_, ?_, ?_⟩
  · by_cases w : i = s
    · rw [w, slA_s G s0 s1 bl0, slA_s G s0 s1 bl0]
    · rw [slA_hi w (by omega) (by omega), slA_hi w (by omega) (by omega)]
      exact D.1 i i0 i1
  · rw [slA_hi (by omega) (by omega) (by omega), slA_hi (by omega) (by omega) (by omega)]
    exact D.2.1
  · rw [slA_p G s0 s1 bl0 b0 b1, slA_p G s0 s1 bl0 b0 b1, D.1 s s0 (by omega)]
    have := D.2.2
    split <;> omega
theorem Dm_dyI {E : EN} (G : EnG E) {b : Int} (b0 : 0 ≤ b) (b1 : b < 7) {th : Int} : ∀ (m : Nat) (k : Int) (t t' : WS), 0 ≤ k → k + m = 2 * E.1 → Dm b t.1 t'.1 → Dm b (dyI E th m k t).1 (dyI E th m k t').1
  | 0, _, _, _, _, _, D => D
  | m + 1, k, t, t', k0, hk, D => by
    have g := G.1
    have D2 : Dm b (dyS E th t k).1 (dyS E th t' k).1 := by
      unfold dyS
      rw [D.1 k k0 (by omega)]
      split
      · exact D
      · exact Dm_sl G b0 b1 D k0 (by omega) (by omega) (by omega)
    exact Dm_dyI G b0 b1 m (k + 1) (dyS E th t k) (dyS E th t' k) (by omega) (by omega) D2
def dA (E : EN) (A : Int → Int) : Int → Int := (dy E (ws0 A)).1
theorem dA_eq (E : EN) (t : WS) : (dy E t).1 = dA E t.1 := dy_A rfl
theorem Dm_dA {E : EN} (G : EnG E) {b : Int} (b0 : 0 ≤ b) (b1 : b < E.1) {A A' : Int → Int} (D : Dm b A A') : Dm b (dA E A) (dA E A') := by
  have g := G.1
  have et : thw E A' = thw E A := by unfold thw; rw [D.2.1]
  have D2 : Dm b (dyF E A) (dyF E A') := by
    unfold dyF faA
    rw [D.2.1]
    refine ⟨fun i i0 i1 => ?_, ?_, ?_⟩
    · dsimp only
      rw [D.1 i i0 i1]
    · dsimp only
      rw [if_neg (by omega), if_neg (by omega)]; exact D.2.1
    · have := D.2.2
      dsimp only
      rw [if_pos (by omega), if_pos (by omega)]
      unfold ly
      omega
  have D3 := Dm_dyI G b0 (by omega) (th := thw E A) (2 * E.1).toNat 0 (dyF E A, (ws0 A).2) (dyF E A', (ws0 A').2) (by omega) (by omega) D2
  refine ⟨fun i i0 i1 => ?_, ?_, ?_⟩
  · show upI _ 70 _ i = upI _ 70 _ i
    rw [upI_o _ (by omega), upI_o _ (by omega)]
    show (dyI E (thw E A') _ _ _).1 i = _
    rw [et]
    exact D3.1 i i0 i1
  · rw [show dA E A' 70 = A' 70 + 1 from dy_70 E (ws0 A'), show dA E A 70 = A 70 + 1 from dy_70 E (ws0 A), D.2.1]
  · show upI _ 70 _ (14 + b) ≤ upI _ 70 _ (14 + b)
    rw [upI_o _ (by omega), upI_o _ (by omega)]
    show (dyI E (thw E A') _ _ _).1 (14 + b) ≤ _
    rw [et]
    exact D3.2.2
/-- a path stays within v, all days -/
def fnB (E : EN) (b v : Int) : Nat → (Int → Int) → Bool
  | 0, A => decide (A (14 + b) ≤ v)
  | m + 1, A => decide (A (14 + b) ≤ v) && fnB E b v m (dA E A)
theorem fnB_mono {E : EN} (G : EnG E) {b v : Int} (b0 : 0 ≤ b) (b1 : b < E.1) : ∀ (m : Nat) (A A' : Int → Int), Dm b A A' → fnB E b v m A = true → fnB E b v m A' = true
  | 0, A, A', D, h => by
    have := D.2.2
    have h := of_decide_eq_true h
    exact decide_eq_true (by omega)
  | m + 1, A, A', D, h => by
    have := D.2.2
    rw [fnB, Bool.and_eq_true] at h ⊢
    have h1 := of_decide_eq_true h.1
    exact ⟨decide_eq_true (by omega), fnB_mono G b0 b1 m (dA E A) (dA E A') (Dm_dA G b0 b1 D) h.2⟩
theorem fnB_f {E : EN} {b v : Int} {m : Nat} {A : Int → Int} (h : v < A (14 + b)) : fnB E b v m A = false := by
  cases m with
  | zero => exact decide_eq_false (by omega)
  | succ m => rw [fnB, decide_eq_false (by omega), Bool.false_and]
theorem fnB_s {E : EN} {b v : Int} {m : Nat} {A : Int → Int} (h : A (14 + b) ≤ v) : fnB E b v (m + 1) A = fnB E b v m (dA E A) := by
  rw [fnB, decide_eq_true h, Bool.true_and]
def fnC (E : EN) (b v : Int) (m : Nat) (A : Int → Int) (c : Int) : Bool := fnB E b v m (upI A (14 + b) (A (14 + b) - c))
theorem fnC_mono {E : EN} (G : EnG E) {b v : Int} (b0 : 0 ≤ b) (b1 : b < E.1) {m : Nat} {A : Int → Int} {c c' : Int} (h : c ≤ c') (hc : fnC E b v m A c = true) : fnC E b v m A c' = true := by
  have g := G.1
  refine fnB_mono G b0 b1 m _ _ ⟨fun i i0 i1 => ?_, ?_, ?_⟩ hc
  · rw [upI_o _ (by omega), upI_o _ (by omega)]
  · rw [upI_o _ (by omega), upI_o _ (by omega)]
  · rw [upI_s, upI_s]; omega
theorem c_stay_L {E : EN} (G : EnG E) {ho cy le : Int32} {hold below inches code : Nat → Int32} (C : EnC E ho cy le hold below inches code) {b v N : Int} (b0 : 0 ≤ b) (b1 : b < E.1) (v0 : 0 ≤ v) (v1 : v ≤ 999) (hN : N ≤ 60) :
    ∀ (m : Nat) (k : Int) (f : Nat) (x : FW) (owed slides struck slid now : Int32) (snow path debt owedBy things stack : Nat → Int32), 0 ≤ k → k + m = N → m < f → WA x.1.1 → x.1.1 70 + m < 2147483648 → Wk x owed slides struck slid now snow path debt owedBy →
    So (fX11_staysWithin_L33 cy ho le inches hold below code (iI b) (iI v) (iI N) f (iI k) owed slides struck slid now snow path debt owedBy things stack)
      (fun o => ∃ y : FW, Wk y o.1 o.2.1 o.2.2.1 o.2.2.2.1 o.2.2.2.2.1 o.2.2.2.2.2.1 o.2.2.2.2.2.2.1 o.2.2.2.2.2.2.2.1 o.2.2.2.2.2.2.2.2.1 ∧ WA y.1.1 ∧ decide (y.1.1 (14 + b) ≤ v) = fnB E b v m x.1.1)
  | 0, k, f + 1, x, owed, slides, struck, slid, now, snow, path, debt, owedBy, things, stack, k0, hk, hf, hA, hn, K => by
    rw [fX11_staysWithin_L33]
    simp (disch := omega) only [gd_t, so_some, so_bind, so_gd, so_none, Option.bind_some, iI_add, iI_sub, iI_mul, iI_neg, iI_clamp, iI_nat, vin_i, iI_le, iI_lt, iI_eq, mn_i, mx_i, if_true, if_false, if_pos, if_neg, li_0, li_1, li_2, li_3, li_4, li_5, li_6, li_7, li_8, li_9, li_10, li_11, li_12, li_14, li_15, li_16, li_20, li_21, li_24, li_28, li_30, li_31, li_40, li_41, li_42, li_43, li_44, li_45, li_47, li_48, li_49, li_57, li_59, li_60, li_61, li_62, li_63, li_70, li_71, li_76, li_80, li_96, li_97, li_98, li_99, li_100, li_101, li_102, li_103, li_104, li_105, li_106, li_107, li_108, li_109, li_110, li_111, li_112, li_113, li_114, li_115, li_116, li_117, li_118, li_119, li_120, li_128, li_142, li_255, li_320, li_781, li_852, li_999, li_1000, li_2000, li_3000, li_9999, li_12345, li_65536, li_1000000, li_252645135, li_858993459, li_1103515245, li_1431655765]
    exact ⟨x, K, hA, rfl⟩
  | m + 1, k, f + 1, x, owed, slides, struck, slid, now, snow, path, debt, owedBy, things, stack, k0, hk, hf, hA, hn, K => by
    have g := G.1
    have a := hA.1 (14 + b) (by omega) (by omega)
    have hp := K.2.2.2.2.1.2.2.1
    rw [fX11_staysWithin_L33]
    by_cases q : v < x.1.1 (14 + b)
    · simp (disch := omega) only [gd_t, so_some, so_bind, so_gd, so_none, Option.bind_some, iI_add, iI_sub, iI_mul, iI_neg, iI_clamp, iI_nat, vin_i, iI_le, iI_lt, iI_eq, mn_i, mx_i, if_true, if_false, if_pos, if_neg, li_0, li_1, li_2, li_3, li_4, li_5, li_6, li_7, li_8, li_9, li_10, li_11, li_12, li_14, li_15, li_16, li_20, li_21, li_24, li_28, li_30, li_31, li_40, li_41, li_42, li_43, li_44, li_45, li_47, li_48, li_49, li_57, li_59, li_60, li_61, li_62, li_63, li_70, li_71, li_76, li_80, li_96, li_97, li_98, li_99, li_100, li_101, li_102, li_103, li_104, li_105, li_106, li_107, li_108, li_109, li_110, li_111, li_112, li_113, li_114, li_115, li_116, li_117, li_118, li_119, li_120, li_128, li_142, li_255, li_320, li_781, li_852, li_999, li_1000, li_2000, li_3000, li_9999, li_12345, li_65536, li_1000000, li_252645135, li_858993459, li_1103515245, li_1431655765, hp.at]
      refine ⟨x, K, hA, ?_⟩
      rw [fnB_f q]
      exact decide_eq_false (by omega)
    · simp (disch := omega) only [gd_t, so_some, so_bind, so_gd, so_none, Option.bind_some, iI_add, iI_sub, iI_mul, iI_neg, iI_clamp, iI_nat, vin_i, iI_le, iI_lt, iI_eq, mn_i, mx_i, if_true, if_false, if_pos, if_neg, li_0, li_1, li_2, li_3, li_4, li_5, li_6, li_7, li_8, li_9, li_10, li_11, li_12, li_14, li_15, li_16, li_20, li_21, li_24, li_28, li_30, li_31, li_40, li_41, li_42, li_43, li_44, li_45, li_47, li_48, li_49, li_57, li_59, li_60, li_61, li_62, li_63, li_70, li_71, li_76, li_80, li_96, li_97, li_98, li_99, li_100, li_101, li_102, li_103, li_104, li_105, li_106, li_107, li_108, li_109, li_110, li_111, li_112, li_113, li_114, li_115, li_116, li_117, li_118, li_119, li_120, li_128, li_142, li_255, li_320, li_781, li_852, li_999, li_1000, li_2000, li_3000, li_9999, li_12345, li_65536, li_1000000, li_252645135, li_858993459, li_1103515245, li_1431655765, hp.at]
      refine so_mono (c_goDay G C hA (by omega) K things stack) ?_
      intro o ho
      have d70 : (fdy E x).1.1 70 = x.1.1 70 + 1 := dy_70 E x.1
      have wd : WA (fdy E x).1.1 := wa_dy G hA
      refine so_mono (c_stay_L G C b0 b1 v0 v1 hN m (k + 1) f (fdy E x) _ _ _ _ _ _ _ _ _ _ _ (by omega) (by omega) (by omega) wd (by omega) ho) ?_
      rintro r ⟨y, y1, y2, y3⟩
      refine ⟨y, y1, y2, ?_⟩
      rw [y3, fnB_s (by omega), ← dA_eq]
      rfl
theorem c_stays {E : EN} (G : EnG E) {ho cy le : Int32} {hold below inches code : Nat → Int32} (C : EnC E ho cy le hold below inches code) {b v N c : Int} (b0 : 0 ≤ b) (b1 : b < E.1) (v0 : 0 ≤ v) (v1 : v ≤ 999) (N0 : 0 ≤ N) (hN : N ≤ 60) {A : Int → Int} (hA : WA A) (a7 : A 70 < 2147400000) (c0 : 0 ≤ c) (c1 : c ≤ A (14 + b))
    {now : Int32} {snow path debt : Nat → Int32} (S : StC A now snow path debt) (o0 s0 t0 d0 n0 : Int32) (sn0 p0 de0 ob0 things stack : Nat → Int32) :
    So (fX11_staysWithin o0 s0 t0 d0 n0 now sn0 p0 de0 ob0 snow path debt cy ho le inches hold below things stack code (iI b) (iI c) (iI v) (iI N)) (fun o => o.1 = if fnC E b v N.toNat A c = true then iI 1 else iI 0) := by
  have g := G.1
  have a := hA.1 (14 + b) (by omega) (by omega)
  unfold fX11_staysWithin
  simp only [so_bind]
  refine so_mono (c_beginAt S o0 s0 t0 d0 n0 sn0 p0 de0 ob0) ?_
  rintro o ⟨d1, d2, d3, d4, ⟨d5, d6, d7, d8⟩, d9⟩
  have d7 : Arr 7 o.2.2.2.2.2.2.1 (fun i => A (14 + i)) := d7
  have u := d7.up (k := b) (A (14 + b) - c) b0
  have wA : WA (upI A (14 + b) (A (14 + b) - c)) := hA.up (fun _ _ => by omega) (fun _ _ => by omega) (fun _ => by omega)
  have K : Wk ((upI A (14 + b) (A (14 + b) - c), 0, fun _ => 0), 0, 0, 0) o.1 o.2.1 o.2.2.1 o.2.2.2.1 o.2.2.2.2.1 o.2.2.2.2.2.1 (upd o.2.2.2.2.2.2.1 b.toNat (iI (A (14 + b) - c))) o.2.2.2.2.2.2.2.1 o.2.2.2.2.2.2.2.2 := by
    refine ⟨d1, d2, d3, d4, ⟨?_, d6.congr (fun x x0 x1 => (upI_o _ (by omega)).symm), u.congr (fun x x0 x1 => ?_), d8.congr (fun x x0 x1 => (upI_o _ (by omega)).symm)⟩, d9⟩
    · show _ = iI (upI A _ _ 70)
      rw [upI_o _ (by omega)]
      exact d5
    · show _ = upI A _ _ (14 + x)
      by_cases w : x = b
      · rw [w, upI_s, upI_s]
      · rw [upI_o _ w, upI_o _ (by omega)]
  simp (disch := omega) only [gd_t, so_some, so_bind, so_gd, so_none, Option.bind_some, iI_add, iI_sub, iI_mul, iI_neg, iI_clamp, iI_nat, vin_i, iI_le, iI_lt, iI_eq, mn_i, mx_i, if_true, if_false, if_pos, if_neg, li_0, li_1, li_2, li_3, li_4, li_5, li_6, li_7, li_8, li_9, li_10, li_11, li_12, li_14, li_15, li_16, li_20, li_21, li_24, li_28, li_30, li_31, li_40, li_41, li_42, li_43, li_44, li_45, li_47, li_48, li_49, li_57, li_59, li_60, li_61, li_62, li_63, li_70, li_71, li_76, li_80, li_96, li_97, li_98, li_99, li_100, li_101, li_102, li_103, li_104, li_105, li_106, li_107, li_108, li_109, li_110, li_111, li_112, li_113, li_114, li_115, li_116, li_117, li_118, li_119, li_120, li_128, li_142, li_255, li_320, li_781, li_852, li_999, li_1000, li_2000, li_3000, li_9999, li_12345, li_65536, li_1000000, li_252645135, li_858993459, li_1103515245, li_1431655765, d7.at]
  refine so_mono (c_stay_L G C b0 b1 v0 v1 hN N.toNat 0 FU _ _ _ _ _ _ _ _ _ _ things stack (by omega) (by omega) (show _ < 4000 by omega) wA (by show upI A _ _ 70 + _ < _; rw [upI_o _ (by omega)]; omega) K) ?_
  rintro r ⟨y, y1, y2, y3⟩
  have hp := y1.2.2.2.2.1.2.2.1
  have ay := y2.1 (14 + b) (by omega) (by omega)
  unfold fX11_staysWithin_J69
  have e : fnC E b v N.toNat A c = decide (y.1.1 (14 + b) ≤ v) := y3.symm
  by_cases q : v < y.1.1 (14 + b)
  · simp (disch := omega) only [gd_t, so_some, so_bind, so_gd, so_none, Option.bind_some, iI_add, iI_sub, iI_mul, iI_neg, iI_clamp, iI_nat, vin_i, iI_le, iI_lt, iI_eq, mn_i, mx_i, if_true, if_false, if_pos, if_neg, li_0, li_1, li_2, li_3, li_4, li_5, li_6, li_7, li_8, li_9, li_10, li_11, li_12, li_14, li_15, li_16, li_20, li_21, li_24, li_28, li_30, li_31, li_40, li_41, li_42, li_43, li_44, li_45, li_47, li_48, li_49, li_57, li_59, li_60, li_61, li_62, li_63, li_70, li_71, li_76, li_80, li_96, li_97, li_98, li_99, li_100, li_101, li_102, li_103, li_104, li_105, li_106, li_107, li_108, li_109, li_110, li_111, li_112, li_113, li_114, li_115, li_116, li_117, li_118, li_119, li_120, li_128, li_142, li_255, li_320, li_781, li_852, li_999, li_1000, li_2000, li_3000, li_9999, li_12345, li_65536, li_1000000, li_252645135, li_858993459, li_1103515245, li_1431655765, hp.at]
    rw [e, decide_eq_false (by omega)]
    rfl
  · simp (disch := omega) only [gd_t, so_some, so_bind, so_gd, so_none, Option.bind_some, iI_add, iI_sub, iI_mul, iI_neg, iI_clamp, iI_nat, vin_i, iI_le, iI_lt, iI_eq, mn_i, mx_i, if_true, if_false, if_pos, if_neg, li_0, li_1, li_2, li_3, li_4, li_5, li_6, li_7, li_8, li_9, li_10, li_11, li_12, li_14, li_15, li_16, li_20, li_21, li_24, li_28, li_30, li_31, li_40, li_41, li_42, li_43, li_44, li_45, li_47, li_48, li_49, li_57, li_59, li_60, li_61, li_62, li_63, li_70, li_71, li_76, li_80, li_96, li_97, li_98, li_99, li_100, li_101, li_102, li_103, li_104, li_105, li_106, li_107, li_108, li_109, li_110, li_111, li_112, li_113, li_114, li_115, li_116, li_117, li_118, li_119, li_120, li_128, li_142, li_255, li_320, li_781, li_852, li_999, li_1000, li_2000, li_3000, li_9999, li_12345, li_65536, li_1000000, li_252645135, li_858993459, li_1103515245, li_1431655765, hp.at]
    rw [e, decide_eq_true (by omega)]
    rfl
theorem c_dig_L {E : EN} (G : EnG E) {ho cy le : Int32} {hold below inches code : Nat → Int32} (C : EnC E ho cy le hold below inches code) {b v N : Int} (b0 : 0 ≤ b) (b1 : b < E.1) (v0 : 0 ≤ v) (v1 : v ≤ 999) (N0 : 0 ≤ N) (hN : N ≤ 60) {A : Int → Int} (hA : WA A) (a7 : A 70 < 2147400000)
    {now : Int32} {snow path debt : Nat → Int32} (S : StC A now snow path debt) : ∀ (m : Nat) (k lo hi : Int) (f : Nat) (o0 s0 t0 d0 n0 : Int32) (sn0 p0 de0 ob0 things stack : Nat → Int32), 0 ≤ k → k + m = 1000 → m < f → 0 ≤ lo → lo ≤ hi → hi - lo + k ≤ 999 → hi ≤ A (14 + b) →
    fnC E b v N.toNat A hi = true → (∀ c, 0 ≤ c → c < lo → fnC E b v N.toNat A c = false) →
    So (fX11_dig_L69 ho now path cy le snow debt inches hold below code (iI b) (iI v) (iI N) f (iI hi) (iI lo) (iI k) o0 s0 t0 d0 n0 sn0 p0 de0 ob0 things stack) (fun o => ∃ L : Int, o.1 = iI L ∧ 0 ≤ L ∧ L ≤ A (14 + b) ∧ fnC E b v N.toNat A L = true ∧ ∀ c, 0 ≤ c → c < L → fnC E b v N.toNat A c = false)
  | 0, k, lo, hi, f + 1, o0, s0, t0, d0, n0, sn0, p0, de0, ob0, things, stack, k0, hk, hf, l0, lh, hkk, hh, F, Z => by omega
  | m + 1, k, lo, hi, f + 1, o0, s0, t0, d0, n0, sn0, p0, de0, ob0, things, stack, k0, hk, hf, l0, lh, hkk, hh, F, Z => by
    have g := G.1
    have a := hA.1 (14 + b) (by omega) (by omega)
    rw [fX11_dig_L69]
    by_cases q : hi ≤ lo
    · simp (disch := omega) only [gd_t, so_some, so_bind, so_gd, so_none, Option.bind_some, iI_add, iI_sub, iI_mul, iI_neg, iI_clamp, iI_nat, vin_i, iI_le, iI_lt, iI_eq, mn_i, mx_i, if_true, if_false, if_pos, if_neg, li_0, li_1, li_2, li_3, li_4, li_5, li_6, li_7, li_8, li_9, li_10, li_11, li_12, li_14, li_15, li_16, li_20, li_21, li_24, li_28, li_30, li_31, li_40, li_41, li_42, li_43, li_44, li_45, li_47, li_48, li_49, li_57, li_59, li_60, li_61, li_62, li_63, li_70, li_71, li_76, li_80, li_96, li_97, li_98, li_99, li_100, li_101, li_102, li_103, li_104, li_105, li_106, li_107, li_108, li_109, li_110, li_111, li_112, li_113, li_114, li_115, li_116, li_117, li_118, li_119, li_120, li_128, li_142, li_255, li_320, li_781, li_852, li_999, li_1000, li_2000, li_3000, li_9999, li_12345, li_65536, li_1000000, li_252645135, li_858993459, li_1103515245, li_1431655765]
      have : lo = hi := by omega
      subst this
      exact ⟨lo, rfl, l0, hh, F, Z⟩
    · have dv : iI (lo + hi) / iI 2 = iI ((lo + hi) / 2) := iI_div2 (by omega) (by omega)
      simp (disch := omega) only [gd_t, so_some, so_bind, so_gd, so_none, Option.bind_some, iI_add, iI_sub, iI_mul, iI_neg, iI_clamp, iI_nat, vin_i, iI_le, iI_lt, iI_eq, mn_i, mx_i, if_true, if_false, if_pos, if_neg, li_0, li_1, li_2, li_3, li_4, li_5, li_6, li_7, li_8, li_9, li_10, li_11, li_12, li_14, li_15, li_16, li_20, li_21, li_24, li_28, li_30, li_31, li_40, li_41, li_42, li_43, li_44, li_45, li_47, li_48, li_49, li_57, li_59, li_60, li_61, li_62, li_63, li_70, li_71, li_76, li_80, li_96, li_97, li_98, li_99, li_100, li_101, li_102, li_103, li_104, li_105, li_106, li_107, li_108, li_109, li_110, li_111, li_112, li_113, li_114, li_115, li_116, li_117, li_118, li_119, li_120, li_128, li_142, li_255, li_320, li_781, li_852, li_999, li_1000, li_2000, li_3000, li_9999, li_12345, li_65536, li_1000000, li_252645135, li_858993459, li_1103515245, li_1431655765, dv]
      refine so_mono (c_stays G C b0 b1 v0 v1 N0 hN hA a7 (c := (lo + hi) / 2) (by omega) (by omega) S o0 s0 t0 d0 n0 sn0 p0 de0 ob0 things stack) ?_
      intro o ho
      rw [ho]
      by_cases w : fnC E b v N.toNat A ((lo + hi) / 2) = true
      · rw [if_pos w]
        simp (disch := omega) only [gd_t, so_some, so_bind, so_gd, so_none, Option.bind_some, iI_add, iI_sub, iI_mul, iI_neg, iI_clamp, iI_nat, vin_i, iI_le, iI_lt, iI_eq, mn_i, mx_i, if_true, if_false, if_pos, if_neg, li_0, li_1, li_2, li_3, li_4, li_5, li_6, li_7, li_8, li_9, li_10, li_11, li_12, li_14, li_15, li_16, li_20, li_21, li_24, li_28, li_30, li_31, li_40, li_41, li_42, li_43, li_44, li_45, li_47, li_48, li_49, li_57, li_59, li_60, li_61, li_62, li_63, li_70, li_71, li_76, li_80, li_96, li_97, li_98, li_99, li_100, li_101, li_102, li_103, li_104, li_105, li_106, li_107, li_108, li_109, li_110, li_111, li_112, li_113, li_114, li_115, li_116, li_117, li_118, li_119, li_120, li_128, li_142, li_255, li_320, li_781, li_852, li_999, li_1000, li_2000, li_3000, li_9999, li_12345, li_65536, li_1000000, li_252645135, li_858993459, li_1103515245, li_1431655765]
        exact c_dig_L G C b0 b1 v0 v1 N0 hN hA a7 S m (k + 1) lo ((lo + hi) / 2) f _ _ _ _ _ _ _ _ _ _ _ (by omega) (by omega) (by omega) l0 (by omega) (by omega) (by omega) w Z
      · rw [if_neg w]
        simp (disch := omega) only [gd_t, so_some, so_bind, so_gd, so_none, Option.bind_some, iI_add, iI_sub, iI_mul, iI_neg, iI_clamp, iI_nat, vin_i, iI_le, iI_lt, iI_eq, mn_i, mx_i, if_true, if_false, if_pos, if_neg, li_0, li_1, li_2, li_3, li_4, li_5, li_6, li_7, li_8, li_9, li_10, li_11, li_12, li_14, li_15, li_16, li_20, li_21, li_24, li_28, li_30, li_31, li_40, li_41, li_42, li_43, li_44, li_45, li_47, li_48, li_49, li_57, li_59, li_60, li_61, li_62, li_63, li_70, li_71, li_76, li_80, li_96, li_97, li_98, li_99, li_100, li_101, li_102, li_103, li_104, li_105, li_106, li_107, li_108, li_109, li_110, li_111, li_112, li_113, li_114, li_115, li_116, li_117, li_118, li_119, li_120, li_128, li_142, li_255, li_320, li_781, li_852, li_999, li_1000, li_2000, li_3000, li_9999, li_12345, li_65536, li_1000000, li_252645135, li_858993459, li_1103515245, li_1431655765]
        refine c_dig_L G C b0 b1 v0 v1 N0 hN hA a7 S m (k + 1) ((lo + hi) / 2 + 1) hi f _ _ _ _ _ _ _ _ _ _ _ (by omega) (by omega) (by omega) (by omega) (by omega) (by omega) hh F (fun c c0 c1 => ?_)
        cases hx : fnC E b v N.toNat A c with
        | false => rfl
        | true => exact absurd (fnC_mono G b0 b1 (show c ≤ (lo + hi) / 2 by omega) hx) w
theorem m_dig_0 {hoM many size : Int32} {weather holdM belowM rule : Nat → Int32} {b v N : Int32} : ∀ (f : Nat) (k : Int32) (rr : Nat) (len top at' wrong asked i1 i2 i3 i4 i5 i6 sm on si : Int32) (th oM : Nat → Int32),
    So (fX12_dig_L99 hoM many size weather holdM belowM rule b v N (f + 1) (iI 0) k rr len top at' wrong asked i1 i2 i3 i4 i5 i6 sm on si th oM) (fun p => p.1 = iI 0) := by
  intro f k rr len top at' wrong asked i1 i2 i3 i4 i5 i6 sm on si th oM
  rw [fX12_dig_L99]
  by_cases q : N ≤ k
  · rw [if_pos q]
    simp only [so_some]
  · rw [if_neg q, if_pos (by decide)]
    simp only [so_some]
theorem m_dig_1 {E : EN} (G : EnG E) {hoM many size : Int32} {holdM belowM weather rule : Nat → Int32} (M : EnM E hoM many size holdM belowM weather rule) {b v N : Int} (b0 : 0 ≤ b) (b1 : b < E.1) (v0 : 0 ≤ v) (v1 : v ≤ 999) (hN : N ≤ 60) :
    ∀ (m : Nat) (k : Int) (f : Nat) (y : MW) (rr : Nat) (len top at' wrong asked i1 i2 i3 i4 i5 i6 sm on si : Int32) (th oM : Nat → Int32), 0 ≤ k → k + m = N → m + 1 < f → WA y.1.1 → y.1.1 70 + m < 2147483648 → y.1.1 (14 + b) ≤ v → Mk y sm on si oM th →
    So (fX12_dig_L99 hoM many size weather holdM belowM rule (iI b) (iI v) (iI N) f (iI 1) (iI k) rr len top at' wrong asked i1 i2 i3 i4 i5 i6 sm on si th oM) (fun p => p.1 = if fnB E b v m y.1.1 = true then iI 1 else iI 0)
  | 0, k, f + 1, y, rr, len, top, at', wrong, asked, i1, i2, i3, i4, i5, i6, sm, on, si, th, oM, k0, hk, hf, hA, hn, hv, L => by
    rw [fX12_dig_L99]
    simp (disch := omega) only [gd_t, so_some, so_bind, so_gd, so_none, Option.bind_some, iI_add, iI_sub, iI_mul, iI_neg, iI_clamp, iI_nat, vin_i, iI_le, iI_lt, iI_eq, mn_i, mx_i, if_true, if_false, if_pos, if_neg, li_0, li_1, li_2, li_3, li_4, li_5, li_6, li_7, li_8, li_9, li_10, li_11, li_12, li_14, li_15, li_16, li_20, li_21, li_24, li_28, li_30, li_31, li_40, li_41, li_42, li_43, li_44, li_45, li_47, li_48, li_49, li_57, li_59, li_60, li_61, li_62, li_63, li_70, li_71, li_76, li_80, li_96, li_97, li_98, li_99, li_100, li_101, li_102, li_103, li_104, li_105, li_106, li_107, li_108, li_109, li_110, li_111, li_112, li_113, li_114, li_115, li_116, li_117, li_118, li_119, li_120, li_128, li_142, li_255, li_320, li_781, li_852, li_999, li_1000, li_2000, li_3000, li_9999, li_12345, li_65536, li_1000000, li_252645135, li_858993459, li_1103515245, li_1431655765]
    rw [show fnB E b v 0 y.1.1 = true from decide_eq_true hv]
    rfl
  | m + 1, k, f + 1, y, rr, len, top, at', wrong, asked, i1, i2, i3, i4, i5, i6, sm, on, si, th, oM, k0, hk, hf, hA, hn, hv, L => by
    have g := G.1
    obtain ⟨p, hp, hpK⟩ := m_goDay G M (x := y) hA (by omega) L rr len top at' wrong asked i1 i2 i3 i4 i5 i6
    have wd : WA (mdy E y).1.1 := wa_dy G hA
    have d70 : (mdy E y).1.1 70 = y.1.1 70 + 1 := dy_70 E y.1
    have hm7 := hpK.2.2.2.2
    have a := wd.1 (14 + b) (by omega) (by omega)
    have e : (mdy E y).1.1 = dA E y.1.1 := dA_eq E y.1
    rw [fX12_dig_L99, fnB_s hv, ← e]
    by_cases q : v < (mdy E y).1.1 (14 + b)
    · simp (disch := omega) only [gd_t, so_some, so_bind, so_gd, so_none, Option.bind_some, iI_add, iI_sub, iI_mul, iI_neg, iI_clamp, iI_nat, vin_i, iI_le, iI_lt, iI_eq, mn_i, mx_i, if_true, if_false, if_pos, if_neg, li_0, li_1, li_2, li_3, li_4, li_5, li_6, li_7, li_8, li_9, li_10, li_11, li_12, li_14, li_15, li_16, li_20, li_21, li_24, li_28, li_30, li_31, li_40, li_41, li_42, li_43, li_44, li_45, li_47, li_48, li_49, li_57, li_59, li_60, li_61, li_62, li_63, li_70, li_71, li_76, li_80, li_96, li_97, li_98, li_99, li_100, li_101, li_102, li_103, li_104, li_105, li_106, li_107, li_108, li_109, li_110, li_111, li_112, li_113, li_114, li_115, li_116, li_117, li_118, li_119, li_120, li_128, li_142, li_255, li_320, li_781, li_852, li_999, li_1000, li_2000, li_3000, li_9999, li_12345, li_65536, li_1000000, li_252645135, li_858993459, li_1103515245, li_1431655765, hp, hm7.at]
      rw [fnB_f q]
      obtain ⟨f, rfl⟩ : ∃ f', f = f' + 1 := ⟨f - 1, by omega⟩
      exact m_dig_0 f _ _ _ _ _ _ _ _ _ _ _ _ _ _ _ _ _ _
    · simp (disch := omega) only [gd_t, so_some, so_bind, so_gd, so_none, Option.bind_some, iI_add, iI_sub, iI_mul, iI_neg, iI_clamp, iI_nat, vin_i, iI_le, iI_lt, iI_eq, mn_i, mx_i, if_true, if_false, if_pos, if_neg, li_0, li_1, li_2, li_3, li_4, li_5, li_6, li_7, li_8, li_9, li_10, li_11, li_12, li_14, li_15, li_16, li_20, li_21, li_24, li_28, li_30, li_31, li_40, li_41, li_42, li_43, li_44, li_45, li_47, li_48, li_49, li_57, li_59, li_60, li_61, li_62, li_63, li_70, li_71, li_76, li_80, li_96, li_97, li_98, li_99, li_100, li_101, li_102, li_103, li_104, li_105, li_106, li_107, li_108, li_109, li_110, li_111, li_112, li_113, li_114, li_115, li_116, li_117, li_118, li_119, li_120, li_128, li_142, li_255, li_320, li_781, li_852, li_999, li_1000, li_2000, li_3000, li_9999, li_12345, li_65536, li_1000000, li_252645135, li_858993459, li_1103515245, li_1431655765, hp, hm7.at]
      exact m_dig_1 G M b0 b1 v0 v1 hN m (k + 1) f (mdy E y) _ _ _ _ _ _ _ _ _ _ _ _ _ _ _ _ _ (by omega) (by omega) (by omega) wd (by omega) (by omega) hpK
theorem m_dig_L {E : EN} (G : EnG E) {hoM many size : Int32} {holdM belowM weather rule : Nat → Int32} (M : EnM E hoM many size holdM belowM weather rule) {b v N : Int} (b0 : 0 ≤ b) (b1 : b < E.1) (v0 : 0 ≤ v) (v1 : v ≤ 999) (N0 : 0 ≤ N) (hN : N ≤ 60) {A : Int → Int} (hA : WA A) (a7 : A 70 < 2147400000) {now : Nat → Int32} (hnw : Arr 71 now A) (thrown : Int32) :
    ∀ (m : Nat) (k : Int) (f : Nat) (rr : Nat) (len top at' wrong asked i1 i2 i3 i4 i5 i6 sm on si : Int32) (th oM : Nat → Int32), 0 ≤ k → k + m = A (14 + b) + 1 → m < f →
    So (fX12_dig_L36 hoM many size now weather holdM belowM rule (iI b) (iI v) (iI N) thrown f (iI k) rr len top at' wrong asked i1 i2 i3 i4 i5 i6 sm on si th oM) (fun o => (∃ c r, k ≤ c ∧ c ≤ A (14 + b) ∧ fnC E b v N.toNat A c = true ∧ (∀ c', k ≤ c' → c' < c → fnC E b v N.toNat A c' = false) ∧ o = Sum.inr r ∧ r.1 = iI c) ∨ ((∀ c, k ≤ c → c ≤ A (14 + b) → fnC E b v N.toNat A c = false) ∧ ∃ r, o = Sum.inl r))
  | 0, k, f + 1, rr, len, top, at', wrong, asked, i1, i2, i3, i4, i5, i6, sm, on, si, th, oM, k0, hk, hf => by
    have g := G.1
    have a := hA.1 (14 + b) (by omega) (by omega)
    rw [fX12_dig_L36]
    simp (disch := omega) only [gd_t, so_some, so_bind, so_gd, so_none, Option.bind_some, iI_add, iI_sub, iI_mul, iI_neg, iI_clamp, iI_nat, vin_i, iI_le, iI_lt, iI_eq, mn_i, mx_i, if_true, if_false, if_pos, if_neg, li_0, li_1, li_2, li_3, li_4, li_5, li_6, li_7, li_8, li_9, li_10, li_11, li_12, li_14, li_15, li_16, li_20, li_21, li_24, li_28, li_30, li_31, li_40, li_41, li_42, li_43, li_44, li_45, li_47, li_48, li_49, li_57, li_59, li_60, li_61, li_62, li_63, li_70, li_71, li_76, li_80, li_96, li_97, li_98, li_99, li_100, li_101, li_102, li_103, li_104, li_105, li_106, li_107, li_108, li_109, li_110, li_111, li_112, li_113, li_114, li_115, li_116, li_117, li_118, li_119, li_120, li_128, li_142, li_255, li_320, li_781, li_852, li_999, li_1000, li_2000, li_3000, li_9999, li_12345, li_65536, li_1000000, li_252645135, li_858993459, li_1103515245, li_1431655765, hnw.at]
    exact Or.inr ⟨fun c c0 c1 => by omega, _, rfl⟩
  | m + 1, k, f + 1, rr, len, top, at', wrong, asked, i1, i2, i3, i4, i5, i6, sm, on, si, th, oM, k0, hk, hf => by
    have g := G.1
    have a := hA.1 (14 + b) (by omega) (by omega)
    obtain ⟨w, hw, hw2⟩ := m_lay0 (b := th) hnw
    rw [li_0] at hw
    have u := hw2.up (k := 14 + b) (A (14 + b) - k) (by omega)
    have us : ∀ d : Nat → Int32, ∀ z, upd d (14 + b).toNat z (14 + b).toNat = z := fun d z => if_pos rfl
    have wA : WA (upI A (14 + b) (A (14 + b) - k)) := hA.up (fun _ _ => by omega) (fun _ _ => by omega) (fun _ => by omega)
    have e70 : upI A (14 + b) (A (14 + b) - k) 70 = A 70 := upI_o _ (by omega)
    have eb : upI A (14 + b) (A (14 + b) - k) (14 + b) = A (14 + b) - k := upI_s _ _ _
    have nxt : ∀ (rr : Nat) (len top at' wrong asked i1 i2 i3 i4 i5 i6 sm on si : Int32) (th oM : Nat → Int32), fnC E b v N.toNat A k = false → So (fX12_dig_L36 hoM many size now weather holdM belowM rule (iI b) (iI v) (iI N) thrown f (iI (k + 1)) rr len top at' wrong asked i1 i2 i3 i4 i5 i6 sm on si th oM) (fun o => (∃ c r, k ≤ c ∧ c ≤ A (14 + b) ∧ fnC E b v N.toNat A c = true ∧ (∀ c', k ≤ c' → c' < c → fnC E b v N.toNat A c' = false) ∧ o = Sum.inr r ∧ r.1 = iI c) ∨ ((∀ c, k ≤ c → c ≤ A (14 + b) → fnC E b v N.toNat A c = false) ∧ ∃ r, o = Sum.inl r)) := by
      intro rr len top at' wrong asked i1 i2 i3 i4 i5 i6 sm on si th oM hf0
      refine so_mono (m_dig_L G M b0 b1 v0 v1 N0 hN hA a7 hnw thrown m (k + 1) f rr len top at' wrong asked i1 i2 i3 i4 i5 i6 sm on si th oM (by omega) (by omega) (by omega)) ?_
      rintro o (⟨c, r, h1, h2, h3, h4, h5, h6⟩ | ⟨h1, h2⟩)
      · refine Or.inl ⟨c, r, by omega, h2, h3, fun c' q0 q1 => ?_, h5, h6⟩
        by_cases z : c' = k
        · rw [z]; exact hf0
        · exact h4 c' (by omega) q1
      · refine Or.inr ⟨fun c q0 q1 => ?_, h2⟩
        by_cases z : c = k
        · rw [z]; exact hf0
        · exact h1 c (by omega) q1
    rw [fX12_dig_L36]
    by_cases q : v < A (14 + b) - k
    · simp (disch := omega) only [gd_t, so_some, so_bind, so_gd, so_none, Option.bind_some, iI_add, iI_sub, iI_mul, iI_neg, iI_clamp, iI_nat, vin_i, iI_le, iI_lt, iI_eq, mn_i, mx_i, if_true, if_false, if_pos, if_neg, li_0, li_1, li_2, li_3, li_4, li_5, li_6, li_7, li_8, li_9, li_10, li_11, li_12, li_14, li_15, li_16, li_20, li_21, li_24, li_28, li_30, li_31, li_40, li_41, li_42, li_43, li_44, li_45, li_47, li_48, li_49, li_57, li_59, li_60, li_61, li_62, li_63, li_70, li_71, li_76, li_80, li_96, li_97, li_98, li_99, li_100, li_101, li_102, li_103, li_104, li_105, li_106, li_107, li_108, li_109, li_110, li_111, li_112, li_113, li_114, li_115, li_116, li_117, li_118, li_119, li_120, li_128, li_142, li_255, li_320, li_781, li_852, li_999, li_1000, li_2000, li_3000, li_9999, li_12345, li_65536, li_1000000, li_252645135, li_858993459, li_1103515245, li_1431655765, hnw.at, hw, hw2.at, us]
      refine so_mono (m_dig_0 3999 _ _ _ _ _ _ _ _ _ _ _ _ _ _ _ _ _ _) ?_
      intro p hp
      rw [hp]
      simp (disch := omega) only [gd_t, so_some, so_bind, so_gd, so_none, Option.bind_some, iI_add, iI_sub, iI_mul, iI_neg, iI_clamp, iI_nat, vin_i, iI_le, iI_lt, iI_eq, mn_i, mx_i, if_true, if_false, if_pos, if_neg, li_0, li_1, li_2, li_3, li_4, li_5, li_6, li_7, li_8, li_9, li_10, li_11, li_12, li_14, li_15, li_16, li_20, li_21, li_24, li_28, li_30, li_31, li_40, li_41, li_42, li_43, li_44, li_45, li_47, li_48, li_49, li_57, li_59, li_60, li_61, li_62, li_63, li_70, li_71, li_76, li_80, li_96, li_97, li_98, li_99, li_100, li_101, li_102, li_103, li_104, li_105, li_106, li_107, li_108, li_109, li_110, li_111, li_112, li_113, li_114, li_115, li_116, li_117, li_118, li_119, li_120, li_128, li_142, li_255, li_320, li_781, li_852, li_999, li_1000, li_2000, li_3000, li_9999, li_12345, li_65536, li_1000000, li_252645135, li_858993459, li_1103515245, li_1431655765]
      exact nxt _ _ _ _ _ _ _ _ _ _ _ _ _ _ _ _ _ (fnB_f (by omega))
    · simp (disch := omega) only [gd_t, so_some, so_bind, so_gd, so_none, Option.bind_some, iI_add, iI_sub, iI_mul, iI_neg, iI_clamp, iI_nat, vin_i, iI_le, iI_lt, iI_eq, mn_i, mx_i, if_true, if_false, if_pos, if_neg, li_0, li_1, li_2, li_3, li_4, li_5, li_6, li_7, li_8, li_9, li_10, li_11, li_12, li_14, li_15, li_16, li_20, li_21, li_24, li_28, li_30, li_31, li_40, li_41, li_42, li_43, li_44, li_45, li_47, li_48, li_49, li_57, li_59, li_60, li_61, li_62, li_63, li_70, li_71, li_76, li_80, li_96, li_97, li_98, li_99, li_100, li_101, li_102, li_103, li_104, li_105, li_106, li_107, li_108, li_109, li_110, li_111, li_112, li_113, li_114, li_115, li_116, li_117, li_118, li_119, li_120, li_128, li_142, li_255, li_320, li_781, li_852, li_999, li_1000, li_2000, li_3000, li_9999, li_12345, li_65536, li_1000000, li_252645135, li_858993459, li_1103515245, li_1431655765, hnw.at, hw, hw2.at, us]
      refine so_mono (m_dig_1 G M b0 b1 v0 v1 hN N.toNat 0 FU _ _ _ _ _ _ _ _ _ _ _ _ _ _ _ _ _ _ (by omega) (by omega) (show _ < 4000 by omega) wA (by show upI A _ _ 70 + _ < _; omega) (by show upI A _ _ (14 + b) ≤ _; omega) (any_Mk u _ _ _ _)) ?_
      intro p hp
      have hp : p.1 = if fnC E b v N.toNat A k = true then iI 1 else iI 0 := hp
      rw [hp]
      by_cases z : fnC E b v N.toNat A k = true
      · rw [if_pos z]
        simp (disch := omega) only [gd_t, so_some, so_bind, so_gd, so_none, Option.bind_some, iI_add, iI_sub, iI_mul, iI_neg, iI_clamp, iI_nat, vin_i, iI_le, iI_lt, iI_eq, mn_i, mx_i, if_true, if_false, if_pos, if_neg, li_0, li_1, li_2, li_3, li_4, li_5, li_6, li_7, li_8, li_9, li_10, li_11, li_12, li_14, li_15, li_16, li_20, li_21, li_24, li_28, li_30, li_31, li_40, li_41, li_42, li_43, li_44, li_45, li_47, li_48, li_49, li_57, li_59, li_60, li_61, li_62, li_63, li_70, li_71, li_76, li_80, li_96, li_97, li_98, li_99, li_100, li_101, li_102, li_103, li_104, li_105, li_106, li_107, li_108, li_109, li_110, li_111, li_112, li_113, li_114, li_115, li_116, li_117, li_118, li_119, li_120, li_128, li_142, li_255, li_320, li_781, li_852, li_999, li_1000, li_2000, li_3000, li_9999, li_12345, li_65536, li_1000000, li_252645135, li_858993459, li_1103515245, li_1431655765]
        exact Or.inl ⟨k, _, by omega, by omega, z, fun c' q0 q1 => by omega, rfl, rfl⟩
      · rw [if_neg z]
        simp (disch := omega) only [gd_t, so_some, so_bind, so_gd, so_none, Option.bind_some, iI_add, iI_sub, iI_mul, iI_neg, iI_clamp, iI_nat, vin_i, iI_le, iI_lt, iI_eq, mn_i, mx_i, if_true, if_false, if_pos, if_neg, li_0, li_1, li_2, li_3, li_4, li_5, li_6, li_7, li_8, li_9, li_10, li_11, li_12, li_14, li_15, li_16, li_20, li_21, li_24, li_28, li_30, li_31, li_40, li_41, li_42, li_43, li_44, li_45, li_47, li_48, li_49, li_57, li_59, li_60, li_61, li_62, li_63, li_70, li_71, li_76, li_80, li_96, li_97, li_98, li_99, li_100, li_101, li_102, li_103, li_104, li_105, li_106, li_107, li_108, li_109, li_110, li_111, li_112, li_113, li_114, li_115, li_116, li_117, li_118, li_119, li_120, li_128, li_142, li_255, li_320, li_781, li_852, li_999, li_1000, li_2000, li_3000, li_9999, li_12345, li_65536, li_1000000, li_252645135, li_858993459, li_1103515245, li_1431655765]
        refine nxt _ _ _ _ _ _ _ _ _ _ _ _ _ _ _ _ _ ?_
        cases hx : fnC E b v N.toNat A k with
        | false => rfl
        | true => exact absurd hx z
theorem s_dig {n : Int} {σ : CS} {τ : MS} (h : R n σ τ) (hn : n < 1000) (p1 p2 p3 : Int32) : Ok n (x_dig σ p1 p2 p3) (y_dig τ p1 p2 p3) := by
  obtain ⟨n0, g, c, m, G⟩ := h
  obtain ⟨b, rfl, b2, b3⟩ := iI_of p1
  obtain ⟨v, rfl, b4, b5⟩ := iI_of p2
  obtain ⟨P, rfl, b0, b1⟩ := iI_of p3
  obtain ⟨c1, c2, c3, c4, c5, c6, c7, c8, c9⟩ := c
  obtain ⟨m1, m2, m3, m4, m5, m6, m7, m8, m9⟩ := m
  have e := G.1.1
  have hS := G.2.2.1
  have a7 := hS.2.2
  unfold Ok x_dig y_dig fX11_dig fX12_dig
  by_cases q2 : 0 ≤ b ∧ b < g.1.1
  · have z3 := has_t e.1 e.2 q2
    have z4 := isH_t e.1 e.2 q2
    rw [← c1.1] at z3
    rw [← m1.1] at z4
    by_cases q3 : 0 ≤ v ∧ v ≤ 999
    · have z5 := win_t (a := v) (b := 0) (c := 999) (by omega) (by omega) q3
      have z6 := in_t (a := v) (b := 0) (c := 999) (by omega) (by omega) q3
      by_cases q : 0 ≤ P ∧ P ≤ 60
      · have z1 := win_t (a := P) (b := 0) (c := 60) (by omega) (by omega) q
        have z2 := isD_t q
        have a := hS.1.1 (14 + b) (by omega) (by omega)
        have hp := c3.2.2.1
        simp only [li_0, li_60, li_999, z1, z2, z3, z4, z5, z6, Option.bind_some]
        simp (disch := omega) only [gd_t, so_some, so_bind, so_gd, so_none, Option.bind_some, iI_add, iI_sub, iI_mul, iI_neg, iI_clamp, iI_nat, vin_i, iI_le, iI_lt, iI_eq, mn_i, mx_i, if_true, if_false, if_pos, if_neg, li_0, li_1, li_2, li_3, li_4, li_5, li_6, li_7, li_8, li_9, li_10, li_11, li_12, li_14, li_15, li_16, li_20, li_21, li_24, li_28, li_30, li_31, li_40, li_41, li_42, li_43, li_44, li_45, li_47, li_48, li_49, li_57, li_59, li_60, li_61, li_62, li_63, li_70, li_71, li_76, li_80, li_96, li_97, li_98, li_99, li_100, li_101, li_102, li_103, li_104, li_105, li_106, li_107, li_108, li_109, li_110, li_111, li_112, li_113, li_114, li_115, li_116, li_117, li_118, li_119, li_120, li_128, li_142, li_255, li_320, li_781, li_852, li_999, li_1000, li_2000, li_3000, li_9999, li_12345, li_65536, li_1000000, li_252645135, li_858993459, li_1103515245, li_1431655765, hp.at]
        refine so_mono (c_stays G.1 c1 q2.1 q2.2 q3.1 q3.2 q.1 q.2 hS.1 (by omega) (c := g.2.2.1 (14 + b)) (by omega) (by omega) c3 _ _ _ _ _ _ _ _ _ _ _) ?_
        intro o ho
        rw [ho]
        have K := m_dig_L G.1 m1 q2.1 q2.2 q3.1 q3.2 q.1 q.2 hS.1 (by omega) m3 (iI 0) (g.2.2.1 (14 + b) + 1).toNat 0 FU τ.2.2 (τ.1 11) (τ.1 20) (τ.1 6) (τ.1 25) (τ.1 10) (τ.1 2) (τ.1 4) (τ.1 1) (τ.1 5) (τ.1 0) (τ.1 3) (τ.1 18) (τ.1 13) (τ.1 17) (τ.2.1 19) (τ.2.1 13) (by omega) (by omega) (show _ < 4000 by omega)
        obtain ⟨r, hr, K⟩ := K
        by_cases w : fnC g.1 b v P.toNat g.2.2.1 (g.2.2.1 (14 + b)) = true
        · rw [if_pos w]
          rcases K with ⟨c, s, k1, k2, k3, k4, rfl, k6⟩ | ⟨k1, -⟩
          · simp (disch := omega) only [gd_t, so_some, so_bind, so_gd, so_none, Option.bind_some, iI_add, iI_sub, iI_mul, iI_neg, iI_clamp, iI_nat, vin_i, iI_le, iI_lt, iI_eq, mn_i, mx_i, if_true, if_false, if_pos, if_neg, li_0, li_1, li_2, li_3, li_4, li_5, li_6, li_7, li_8, li_9, li_10, li_11, li_12, li_14, li_15, li_16, li_20, li_21, li_24, li_28, li_30, li_31, li_40, li_41, li_42, li_43, li_44, li_45, li_47, li_48, li_49, li_57, li_59, li_60, li_61, li_62, li_63, li_70, li_71, li_76, li_80, li_96, li_97, li_98, li_99, li_100, li_101, li_102, li_103, li_104, li_105, li_106, li_107, li_108, li_109, li_110, li_111, li_112, li_113, li_114, li_115, li_116, li_117, li_118, li_119, li_120, li_128, li_142, li_255, li_320, li_781, li_852, li_999, li_1000, li_2000, li_3000, li_9999, li_12345, li_65536, li_1000000, li_252645135, li_858993459, li_1103515245, li_1431655765, hr, Sum.elim_inr]
            refine so_mono (c_dig_L G.1 c1 q2.1 q2.2 q3.1 q3.2 q.1 q.2 hS.1 (by omega) c3 1000 0 0 (g.2.2.1 (14 + b)) FU _ _ _ _ _ _ _ _ _ _ _ (by omega) (by omega) (show _ < 4000 by omega) (by omega) (by omega) (by omega) (by omega) w (fun c c0 c1 => by omega)) ?_
            rintro u ⟨L, u1, u2, u3, u4, u5⟩
            have eL : L = c := by
              by_cases x1 : L < c
              · have := k4 L u2 x1
                rw [u4] at this
                exact absurd this (by decide)
              · by_cases x2 : c < L
                · have := u5 c k1 x2
                  rw [k3] at this
                  exact absurd this (by decide)
                · omega
            exact ⟨by rw [u1, k6, eL], R.same ⟨n0.1, hn⟩ G ⟨c1, c2, c3, c4, c5, c6, c7, c8, c9⟩ ⟨m1, m2, m3, m4, m5, m6, m7, m8, m9⟩⟩
          · have := k1 _ (by omega) (Int.le_refl _)
            rw [w] at this
            exact absurd this (by decide)
        · rw [if_neg w]
          rcases K with ⟨c, s, k1, k2, k3, k4, rfl, k6⟩ | ⟨k1, s, rfl⟩
          · exact absurd (fnC_mono G.1 q2.1 q2.2 k2 k3) w
          · simp (disch := omega) only [gd_t, so_some, so_bind, so_gd, so_none, Option.bind_some, iI_add, iI_sub, iI_mul, iI_neg, iI_clamp, iI_nat, vin_i, iI_le, iI_lt, iI_eq, mn_i, mx_i, if_true, if_false, if_pos, if_neg, li_0, li_1, li_2, li_3, li_4, li_5, li_6, li_7, li_8, li_9, li_10, li_11, li_12, li_14, li_15, li_16, li_20, li_21, li_24, li_28, li_30, li_31, li_40, li_41, li_42, li_43, li_44, li_45, li_47, li_48, li_49, li_57, li_59, li_60, li_61, li_62, li_63, li_70, li_71, li_76, li_80, li_96, li_97, li_98, li_99, li_100, li_101, li_102, li_103, li_104, li_105, li_106, li_107, li_108, li_109, li_110, li_111, li_112, li_113, li_114, li_115, li_116, li_117, li_118, li_119, li_120, li_128, li_142, li_255, li_320, li_781, li_852, li_999, li_1000, li_2000, li_3000, li_9999, li_12345, li_65536, li_1000000, li_252645135, li_858993459, li_1103515245, li_1431655765, hr, Sum.elim_inl]
            exact ⟨(by first | rfl | trivial), R.same ⟨n0.1, hn⟩ G ⟨c1, c2, c3, c4, c5, c6, c7, c8, c9⟩ ⟨m1, m2, m3, m4, m5, m6, m7, m8, m9⟩⟩
      · have z1 := win_f (a := P) (b := 0) (c := 60) b0 b1 (by omega) (by omega) (by omega) (by omega) q
        have z2 := isD_f b0 b1 q
        simp only [li_0, li_60, li_999, z1, z2, z3, z4, z5, z6, Option.bind_some]
        simp (disch := omega) only [gd_t, so_some, so_bind, so_gd, so_none, Option.bind_some, iI_add, iI_sub, iI_mul, iI_neg, iI_clamp, iI_nat, vin_i, iI_le, iI_lt, iI_eq, mn_i, mx_i, if_true, if_false, if_pos, if_neg, li_0, li_1, li_2, li_3, li_4, li_5, li_6, li_7, li_8, li_9, li_10, li_11, li_12, li_14, li_15, li_16, li_20, li_21, li_24, li_28, li_30, li_31, li_40, li_41, li_42, li_43, li_44, li_45, li_47, li_48, li_49, li_57, li_59, li_60, li_61, li_62, li_63, li_70, li_71, li_76, li_80, li_96, li_97, li_98, li_99, li_100, li_101, li_102, li_103, li_104, li_105, li_106, li_107, li_108, li_109, li_110, li_111, li_112, li_113, li_114, li_115, li_116, li_117, li_118, li_119, li_120, li_128, li_142, li_255, li_320, li_781, li_852, li_999, li_1000, li_2000, li_3000, li_9999, li_12345, li_65536, li_1000000, li_252645135, li_858993459, li_1103515245, li_1431655765]
        exact ⟨(by first | rfl | trivial), R.same ⟨n0.1, hn⟩ G ⟨c1, c2, c3, c4, c5, c6, c7, c8, c9⟩ ⟨m1, m2, m3, m4, m5, m6, m7, m8, m9⟩⟩
    · have z5 := win_f (a := v) (b := 0) (c := 999) b4 b5 (by omega) (by omega) (by omega) (by omega) q3
      have z6 := in_f (a := v) (b := 0) (c := 999) b4 b5 (by omega) (by omega) (by omega) (by omega) q3
      simp only [li_0, li_999, z3, z4, z5, z6, Option.bind_some]
      simp (disch := omega) only [gd_t, so_some, so_bind, so_gd, so_none, Option.bind_some, iI_add, iI_sub, iI_mul, iI_neg, iI_clamp, iI_nat, vin_i, iI_le, iI_lt, iI_eq, mn_i, mx_i, if_true, if_false, if_pos, if_neg, li_0, li_1, li_2, li_3, li_4, li_5, li_6, li_7, li_8, li_9, li_10, li_11, li_12, li_14, li_15, li_16, li_20, li_21, li_24, li_28, li_30, li_31, li_40, li_41, li_42, li_43, li_44, li_45, li_47, li_48, li_49, li_57, li_59, li_60, li_61, li_62, li_63, li_70, li_71, li_76, li_80, li_96, li_97, li_98, li_99, li_100, li_101, li_102, li_103, li_104, li_105, li_106, li_107, li_108, li_109, li_110, li_111, li_112, li_113, li_114, li_115, li_116, li_117, li_118, li_119, li_120, li_128, li_142, li_255, li_320, li_781, li_852, li_999, li_1000, li_2000, li_3000, li_9999, li_12345, li_65536, li_1000000, li_252645135, li_858993459, li_1103515245, li_1431655765]
      exact ⟨(by first | rfl | trivial), R.same ⟨n0.1, hn⟩ G ⟨c1, c2, c3, c4, c5, c6, c7, c8, c9⟩ ⟨m1, m2, m3, m4, m5, m6, m7, m8, m9⟩⟩
  · have z3 := has_f e.1 e.2 b2 b3 q2
    have z4 := isH_f e.1 e.2 b2 b3 q2
    rw [← c1.1] at z3
    rw [← m1.1] at z4
    simp only [z3, z4, Option.bind_some]
    simp (disch := omega) only [gd_t, so_some, so_bind, so_gd, so_none, Option.bind_some, iI_add, iI_sub, iI_mul, iI_neg, iI_clamp, iI_nat, vin_i, iI_le, iI_lt, iI_eq, mn_i, mx_i, if_true, if_false, if_pos, if_neg, li_0, li_1, li_2, li_3, li_4, li_5, li_6, li_7, li_8, li_9, li_10, li_11, li_12, li_14, li_15, li_16, li_20, li_21, li_24, li_28, li_30, li_31, li_40, li_41, li_42, li_43, li_44, li_45, li_47, li_48, li_49, li_57, li_59, li_60, li_61, li_62, li_63, li_70, li_71, li_76, li_80, li_96, li_97, li_98, li_99, li_100, li_101, li_102, li_103, li_104, li_105, li_106, li_107, li_108, li_109, li_110, li_111, li_112, li_113, li_114, li_115, li_116, li_117, li_118, li_119, li_120, li_128, li_142, li_255, li_320, li_781, li_852, li_999, li_1000, li_2000, li_3000, li_9999, li_12345, li_65536, li_1000000, li_252645135, li_858993459, li_1103515245, li_1431655765]
    exact ⟨(by first | rfl | trivial), R.same ⟨n0.1, hn⟩ G ⟨c1, c2, c3, c4, c5, c6, c7, c8, c9⟩ ⟨m1, m2, m3, m4, m5, m6, m7, m8, m9⟩⟩
