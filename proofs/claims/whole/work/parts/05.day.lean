/-! what a day does -/
theorem slA_hi {E : EN} {A : Int → Int} {s bl x : Int} {k : Int} (h1 : k ≠ s) (h2 : k ≠ 14 + E.2.2.1 s) (h3 : k ≠ 21 + (bl * 7 + E.2.2.1 s)) : slA E A s bl x k = A k := by
  unfold slA
  split
  · split
    · rw [upI_o _ h3, upI_o _ h2, upI_o _ h1]
    · rw [upI_o _ h2, upI_o _ h1]
  · rw [upI_o _ h1]
theorem upI_b {A : Int → Int} {P : Int → Prop} {k v : Int} (hv : P v) {i : Int} (h : P (A i)) : P (upI A k v i) := by
  by_cases q : i = k
  · rw [q, upI_s]; exact hv
  · rw [upI_o _ q]; exact h
theorem WA.up {A : Int → Int} (hA : WA A) {k v : Int} (h1 : 0 ≤ k → k < 21 → 0 ≤ v ∧ v ≤ 999) (h2 : 21 ≤ k → k < 70 → 0 ≤ v ∧ v ≤ 9999) (h3 : k = 70 → 0 ≤ v) : WA (upI A k v) := by
  refine ⟨fun i i0 i1 => ?_, fun i i0 i1 => ?_, ?_⟩
  · by_cases q : i = k
    · rw [q, upI_s]; exact h1 (by omega) (by omega)
    · rw [upI_o _ q]; exact hA.1 i i0 i1
  · by_cases q : i = k
    · rw [q, upI_s]; exact h2 (by omega) (by omega)
    · rw [upI_o _ q]; exact hA.2.1 i i0 i1
  · by_cases q : 70 = k
    · rw [q, upI_s]; exact h3 q.symm
    · rw [upI_o _ q]; exact hA.2.2
theorem wa_sl {E : EN} (G : EnG E) {A : Int → Int} (hA : WA A) {s bl x : Int} (hs : 0 ≤ s) (hs2 : s < 2 * E.1) (hb : 0 ≤ bl) (hb2 : bl < E.1) : WA (slA E A s bl x) := by
  have b1 := G.2.2.1 s hs hs2
  have g0 := G.1
  have a1 := hA.1 s hs (by omega)
  have a2 := hA.1 (14 + E.2.2.1 s) (by omega) (by omega)
  have a3 := hA.2.1 (21 + (bl * 7 + E.2.2.1 s)) (by omega) (by omega)
  have d := slD_b G A s bl x
  have u1 : WA (upI A s 0) := hA.up (fun _ _ => by omega) (fun _ _ => by omega) (fun _ => by omega)
  have u2 : WA (upI (upI A s 0) (14 + E.2.2.1 s) (min 999 (A (14 + E.2.2.1 s) + A s))) := u1.up (fun _ _ => by omega) (fun _ _ => by omega) (fun _ => by omega)
  unfold slA
  split
  · split
    · exact u2.up (fun _ _ => by omega) (fun _ _ => by omega) (fun _ => by omega)
    · exact u2
  · exact u1
/-- what falls, or thaws -/
def ly (x v : Int) : Int := max 0 (min 999 (x + v))
def faA (h v : Int) (A : Int → Int) : Int → Int := fun i => if (0 ≤ i ∧ i < 2 * h) ∨ (14 ≤ i ∧ i < 14 + h) then ly (A i) v else A i
theorem wa_fa {h v : Int} (h7 : h ≤ 7) {A : Int → Int} (hA : WA A) : WA (faA h v A) := by
  refine ⟨fun i i0 i1 => ?_, fun i i0 i1 => ?_, ?_⟩
  · unfold faA
    split
    · unfold ly; omega
    · exact hA.1 i i0 i1
  · unfold faA
    rw [if_neg (by omega)]
    exact hA.2.1 i i0 i1
  · unfold faA
    rw [if_neg (by omega)]
    exact hA.2.2
theorem fa70 {h v : Int} (h7 : h ≤ 7) (A : Int → Int) : faA h v A 70 = A 70 := by
  unfold faA; rw [if_neg (by omega)]
theorem fa_0 {h : Int} (h7 : h ≤ 7) {A : Int → Int} (hA : WA A) : ∀ i, faA h 0 A i = A i := by
  intro i
  unfold faA
  split
  · have := hA.1 i (by omega) (by omega)
    unfold ly; omega
  · rfl
abbrev WS : Type := (Int → Int) × Int × (Int → Int)
def slW (E : EN) (s bl x : Int) (t : WS) : WS := (slA E t.1 s bl x, t.2.1 + slD E t.1 s bl x, slB E t.1 t.2.2 s bl x)
def dyS (E : EN) (th : Int) (t : WS) (k : Int) : WS := if t.1 k ≤ max 0 (E.2.1 (k / 2) - th) then t else slW E k (k / 2) 0 t
def dyI (E : EN) (th : Int) : Nat → Int → WS → WS
  | 0, _, t => t
  | m + 1, k, t => dyI E th m (k + 1) (dyS E th t k)
/-- how many slide from k on, which (bits), what they strike: all, or of the houses alone -/
def cnt (E : EN) (th : Int) (A : Int → Int) : Nat → Int → Int
  | 0, _ => 0
  | m + 1, k => (if A k ≤ max 0 (E.2.1 (k / 2) - th) then 0 else 1) + cnt E th A m (k + 1)
def bts (E : EN) (th : Int) (A : Int → Int) : Nat → Int → Int32 → Int32
  | 0, _, b => b
  | m + 1, k, b => bts E th A m (k + 1) (if A k ≤ max 0 (E.2.1 (k / 2) - th) then b else b ||| (1 <<< (iI k &&& 31)))
def stC (E : EN) (th : Int) (A : Int → Int) : Nat → Int → Int32 → Int32
  | 0, _, b => b
  | m + 1, k, b => stC E th A m (k + 1) (if A k ≤ max 0 (E.2.1 (k / 2) - th) then b else (b ||| (if E.2.2.1 k = k / 2 then (0 : Int32) else (1 : Int32) <<< (iI (E.2.2.1 k) &&& 31))))
def stM (E : EN) (th : Int) (A : Int → Int) : Nat → Int → Int32 → Int32
  | 0, _, b => b
  | m + 1, k, b => stM E th A m (k + 1) (if A k ≤ max 0 (E.2.1 (k / 2) - th) then b else (if E.2.2.1 k < E.1 then (if k / 2 = E.2.2.1 k then b else b ||| (1 <<< (iI (E.2.2.1 k) &&& 31))) else b))
theorem c_fall_L2 {h v : Int} (h7 : h ≤ 7) (v1 : -9 ≤ v) (v2 : v ≤ 9) : ∀ (m : Nat) (k : Int) (f : Nat) (s : Nat → Int32) (B : Int → Int), 0 ≤ k → k + m = 2 * h → m < f → (∀ i, 0 ≤ i → i < 14 → 0 ≤ B i ∧ B i ≤ 999) → Arr 14 s B →
    So (fX9_fallOnTown_L2 (iI h) (iI v) f (iI k) s) (fun o => Arr 14 o (fun i => if k ≤ i ∧ i < 2 * h then ly (B i) v else B i))
  | 0, k, f + 1, s, B, h0, hk, hf, hB, ha => by
    rw [fX9_fallOnTown_L2]
    simp (disch := omega) only [gd_t, so_some, so_bind, so_gd, so_none, Option.bind_some, iI_add, iI_sub, iI_mul, iI_neg, iI_clamp, iI_nat, vin_i, iI_le, iI_lt, iI_eq, mn_i, mx_i, if_true, if_false, if_pos, if_neg, li_0, li_1, li_2, li_3, li_4, li_5, li_6, li_7, li_8, li_9, li_10, li_11, li_12, li_14, li_15, li_16, li_20, li_21, li_24, li_28, li_30, li_31, li_40, li_41, li_42, li_43, li_44, li_45, li_47, li_48, li_49, li_57, li_59, li_60, li_61, li_62, li_63, li_70, li_71, li_76, li_80, li_96, li_97, li_98, li_99, li_100, li_101, li_102, li_103, li_104, li_105, li_106, li_107, li_108, li_109, li_110, li_111, li_112, li_113, li_114, li_115, li_116, li_117, li_118, li_119, li_120, li_128, li_142, li_255, li_320, li_781, li_852, li_999, li_1000, li_2000, li_3000, li_9999, li_12345, li_65536, li_1000000, li_252645135, li_858993459, li_1103515245, li_1431655765]
    exact ha.congr (fun x h0 h1 => by first | rw [if_neg (by omega)] | rfl)
  | m + 1, k, f + 1, s, B, h0, hk, hf, hB, ha => by
    have b := hB k h0 (by omega)
    rw [fX9_fallOnTown_L2]
    simp (disch := omega) only [gd_t, so_some, so_bind, so_gd, so_none, Option.bind_some, iI_add, iI_sub, iI_mul, iI_neg, iI_clamp, iI_nat, vin_i, iI_le, iI_lt, iI_eq, mn_i, mx_i, if_true, if_false, if_pos, if_neg, li_0, li_1, li_2, li_3, li_4, li_5, li_6, li_7, li_8, li_9, li_10, li_11, li_12, li_14, li_15, li_16, li_20, li_21, li_24, li_28, li_30, li_31, li_40, li_41, li_42, li_43, li_44, li_45, li_47, li_48, li_49, li_57, li_59, li_60, li_61, li_62, li_63, li_70, li_71, li_76, li_80, li_96, li_97, li_98, li_99, li_100, li_101, li_102, li_103, li_104, li_105, li_106, li_107, li_108, li_109, li_110, li_111, li_112, li_113, li_114, li_115, li_116, li_117, li_118, li_119, li_120, li_128, li_142, li_255, li_320, li_781, li_852, li_999, li_1000, li_2000, li_3000, li_9999, li_12345, li_65536, li_1000000, li_252645135, li_858993459, li_1103515245, li_1431655765, ha.at, fX5_lying]
    refine so_mono (c_fall_L2 h7 v1 v2 m (k + 1) f _ (upI B k (ly (B k) v)) (by omega) (by omega) (by omega) (fun i i0 i1 => upI_b (P := fun z => 0 ≤ z ∧ z ≤ 999) (by unfold ly; omega) (hB i i0 i1)) (ha.up _ h0)) ?_
    intro o ho
    refine ho.congr (fun x h0 h1 => ?_)
    by_cases hx : x = k
    · subst hx
      rw [if_neg (by omega), if_pos (by omega), upI_s]
    · rw [upI_o _ hx]
      by_cases h2 : k + 1 ≤ x ∧ x < 2 * h
      · rw [if_pos h2, if_pos (by omega)]
      · rw [if_neg h2, if_neg (by omega)]
theorem c_fall_L46 {h v : Int} (h7 : h ≤ 7) (v1 : -9 ≤ v) (v2 : v ≤ 9) : ∀ (m : Nat) (k : Int) (f : Nat) (s : Nat → Int32) (B : Int → Int), 0 ≤ k → k + m = h → m < f → (∀ i, 0 ≤ i → i < 7 → 0 ≤ B i ∧ B i ≤ 999) → Arr 7 s B →
    So (fX9_fallOnTown_L46 (iI h) (iI v) f (iI k) s) (fun o => Arr 7 o (fun i => if k ≤ i ∧ i < h then ly (B i) v else B i))
  | 0, k, f + 1, s, B, h0, hk, hf, hB, ha => by
    rw [fX9_fallOnTown_L46]
    simp (disch := omega) only [gd_t, so_some, so_bind, so_gd, so_none, Option.bind_some, iI_add, iI_sub, iI_mul, iI_neg, iI_clamp, iI_nat, vin_i, iI_le, iI_lt, iI_eq, mn_i, mx_i, if_true, if_false, if_pos, if_neg, li_0, li_1, li_2, li_3, li_4, li_5, li_6, li_7, li_8, li_9, li_10, li_11, li_12, li_14, li_15, li_16, li_20, li_21, li_24, li_28, li_30, li_31, li_40, li_41, li_42, li_43, li_44, li_45, li_47, li_48, li_49, li_57, li_59, li_60, li_61, li_62, li_63, li_70, li_71, li_76, li_80, li_96, li_97, li_98, li_99, li_100, li_101, li_102, li_103, li_104, li_105, li_106, li_107, li_108, li_109, li_110, li_111, li_112, li_113, li_114, li_115, li_116, li_117, li_118, li_119, li_120, li_128, li_142, li_255, li_320, li_781, li_852, li_999, li_1000, li_2000, li_3000, li_9999, li_12345, li_65536, li_1000000, li_252645135, li_858993459, li_1103515245, li_1431655765]
    exact ha.congr (fun x h0 h1 => by first | rw [if_neg (by omega)] | rfl)
  | m + 1, k, f + 1, s, B, h0, hk, hf, hB, ha => by
    have b := hB k h0 (by omega)
    rw [fX9_fallOnTown_L46]
    simp (disch := omega) only [gd_t, so_some, so_bind, so_gd, so_none, Option.bind_some, iI_add, iI_sub, iI_mul, iI_neg, iI_clamp, iI_nat, vin_i, iI_le, iI_lt, iI_eq, mn_i, mx_i, if_true, if_false, if_pos, if_neg, li_0, li_1, li_2, li_3, li_4, li_5, li_6, li_7, li_8, li_9, li_10, li_11, li_12, li_14, li_15, li_16, li_20, li_21, li_24, li_28, li_30, li_31, li_40, li_41, li_42, li_43, li_44, li_45, li_47, li_48, li_49, li_57, li_59, li_60, li_61, li_62, li_63, li_70, li_71, li_76, li_80, li_96, li_97, li_98, li_99, li_100, li_101, li_102, li_103, li_104, li_105, li_106, li_107, li_108, li_109, li_110, li_111, li_112, li_113, li_114, li_115, li_116, li_117, li_118, li_119, li_120, li_128, li_142, li_255, li_320, li_781, li_852, li_999, li_1000, li_2000, li_3000, li_9999, li_12345, li_65536, li_1000000, li_252645135, li_858993459, li_1103515245, li_1431655765, ha.at, fX5_lying]
    refine so_mono (c_fall_L46 h7 v1 v2 m (k + 1) f _ (upI B k (ly (B k) v)) (by omega) (by omega) (by omega) (fun i i0 i1 => upI_b (P := fun z => 0 ≤ z ∧ z ≤ 999) (by unfold ly; omega) (hB i i0 i1)) (ha.up _ h0)) ?_
    intro o ho
    refine ho.congr (fun x h0 h1 => ?_)
    by_cases hx : x = k
    · subst hx
      rw [if_neg (by omega), if_pos (by omega), upI_s]
    · rw [upI_o _ hx]
      by_cases h2 : k + 1 ≤ x ∧ x < h
      · rw [if_pos h2, if_pos (by omega)]
      · rw [if_neg h2, if_neg (by omega)]
theorem c_fall {h v : Int} (h0 : 0 ≤ h) (h7 : h ≤ 7) (v1 : -9 ≤ v) (v2 : v ≤ 9) {snow path : Nat → Int32} {A : Int → Int} (hA : WA A) (h1 : Arr 14 snow A) (h2 : Arr 7 path (fun i => A (14 + i))) :
    So (fX9_fallOnTown (iI h) snow path (iI v)) (fun o => Arr 14 o.1 (faA h v A) ∧ Arr 7 o.2 (fun i => faA h v A (14 + i))) := by
  unfold fX9_fallOnTown
  simp only [so_bind, li_0]
  refine so_mono (c_fall_L2 h7 v1 v2 (2 * h).toNat 0 FU snow A (by omega) (by omega) (show _ < 4000 by omega) (fun i i0 i1 => hA.1 i i0 (by omega)) h1) ?_
  intro o ho
  refine so_mono (c_fall_L46 h7 v1 v2 h.toNat 0 FU path _ (by omega) (by omega) (show _ < 4000 by omega) (fun i i0 i1 => hA.1 (14 + i) (by omega) (by omega)) h2) ?_
  intro p hp
  rw [so_some]
  refine ⟨ho.congr (fun x h0 h1 => ?_), hp.congr (fun x h0 h1 => ?_)⟩
  · unfold faA
    by_cases q : 0 ≤ x ∧ x < 2 * h
    · rw [if_pos q, if_pos (Or.inl q)]
    · rw [if_neg q, if_neg (by omega)]
  · unfold faA
    by_cases q : 0 ≤ x ∧ x < h
    · rw [if_pos q, if_pos (by omega)]
    · rw [if_neg q, if_neg (by omega)]
theorem dyS_1 {E : EN} {th : Int} {t : WS} {k : Int} (h : t.1 k ≤ max 0 (E.2.1 (k / 2) - th)) : dyS E th t k = t := if_pos h
theorem dyS_2 {E : EN} {th : Int} {t : WS} {k : Int} (h : ¬ t.1 k ≤ max 0 (E.2.1 (k / 2) - th)) : dyS E th t k = slW E k (k / 2) 0 t := if_neg h
theorem wa_dyS {E : EN} (G : EnG E) {th : Int} {t : WS} {k : Int} (hA : WA t.1) (h0 : 0 ≤ k) (h1 : k < 2 * E.1) : WA (dyS E th t k).1 := by
  unfold dyS
  split
  · exact hA
  · exact wa_sl G hA h0 h1 (by omega) (by omega)
theorem dyS_o {E : EN} (G : EnG E) {th : Int} {t : WS} {k i : Int} (h0 : 0 ≤ k) (h1 : k < 2 * E.1) (hi : k < i) (hj : i < 14 ∨ i = 70) : (dyS E th t k).1 i = t.1 i := by
  have b := G.2.2.1 k h0 h1
  have g := G.1
  unfold dyS
  split
  · rfl
  · exact slA_hi (by omega) (by omega) (by omega)
theorem dyI_ok {E : EN} (G : EnG E) {th : Int} : ∀ (m : Nat) (k : Int) (t : WS), 0 ≤ k → k + m = 2 * E.1 → WA t.1 → WA (dyI E th m k t).1 ∧ (dyI E th m k t).1 70 = t.1 70
  | 0, k, t, h0, hk, hA => ⟨hA, rfl⟩
  | m + 1, k, t, h0, hk, hA => by
    have h := dyI_ok G (th := th) m (k + 1) (dyS E th t k) (by omega) (by omega) (wa_dyS G hA h0 (by omega))
    refine ⟨h.1, h.2.trans (dyS_o G h0 (by omega) ?_ (Or.inr rfl))⟩
    have := G.1
    omega
theorem c_day_L {E : EN} (G : EnG E) {ho cy le : Int32} {hold below inches code : Nat → Int32} (C : EnC E ho cy le hold below inches code) {th now : Int} (ht : 0 ≤ th) (ht2 : th ≤ 9) (hn : now < 2147483648) {F : Int → Int} :
    ∀ (m : Nat) (k : Int) (f : Nat) (t : WS) (sl : Int) (st sd : Int32) (snow path things stack debt owedBy : Nat → Int32), 0 ≤ k → k + m = 2 * E.1 → m < f → WA t.1 → t.1 70 = now → (∀ i, k ≤ i → i < 14 → t.1 i = F i) →
    Arr 14 snow t.1 → Arr 7 path (fun i => t.1 (14 + i)) → Arr 49 debt (fun i => t.1 (21 + i)) → Arr 7 owedBy t.2.2 →
    So (fX9_goDay_L38 cy inches ho hold below le code (iI th) (iI now) f (iI k) (iI t.2.1) (iI sl) st sd snow path things stack debt owedBy)
      (fun o => o.1 = iI (dyI E th m k t).2.1 ∧ o.2.1 = iI (sl + cnt E th F m k) ∧ o.2.2.1 = stC E th F m k st ∧ o.2.2.2.1 = bts E th F m k sd ∧ Arr 14 o.2.2.2.2.1 (dyI E th m k t).1 ∧ Arr 7 o.2.2.2.2.2.1 (fun i => (dyI E th m k t).1 (14 + i)) ∧
        Arr 49 o.2.2.2.2.2.2.2.2.1 (fun i => (dyI E th m k t).1 (21 + i)) ∧ Arr 7 o.2.2.2.2.2.2.2.2.2 (dyI E th m k t).2.2)
  | 0, k, f + 1, t, sl, st, sd, snow, path, things, stack, debt, owedBy, h0, hk, hf, hA, h70, hF, h1, h2, h3, h4 => by
    have g := G.1
    rw [fX9_goDay_L38, C.1]
    simp (disch := omega) only [gd_t, so_some, so_bind, so_gd, so_none, Option.bind_some, iI_add, iI_sub, iI_mul, iI_neg, iI_clamp, iI_nat, vin_i, iI_le, iI_lt, iI_eq, mn_i, mx_i, if_true, if_false, if_pos, if_neg, li_0, li_1, li_2, li_3, li_4, li_5, li_6, li_7, li_8, li_9, li_10, li_11, li_12, li_14, li_15, li_16, li_20, li_21, li_24, li_28, li_30, li_31, li_40, li_41, li_42, li_43, li_44, li_45, li_47, li_48, li_49, li_57, li_59, li_60, li_61, li_62, li_63, li_70, li_71, li_76, li_80, li_96, li_97, li_98, li_99, li_100, li_101, li_102, li_103, li_104, li_105, li_106, li_107, li_108, li_109, li_110, li_111, li_112, li_113, li_114, li_115, li_116, li_117, li_118, li_119, li_120, li_128, li_142, li_255, li_320, li_781, li_852, li_999, li_1000, li_2000, li_3000, li_9999, li_12345, li_65536, li_1000000, li_252645135, li_858993459, li_1103515245, li_1431655765]
    refine ⟨rfl, ?_, rfl, rfl, h1, h2, h3, h4⟩
    rw [cnt, Int.add_zero]
  | m + 1, k, f + 1, t, sl, st, sd, snow, path, things, stack, debt, owedBy, h0, hk, hf, hA, h70, hF, h1, h2, h3, h4 => by
    have g := G.1
    have o1 := G.2.1 (k / 2) (by omega) (by omega)
    have b1 := G.2.2.1 k (by omega) (by omega)
    have a1 := hA.1 k h0 (by omega)
    have a7 := hA.2.2
    have fk := hF k (by omega) (by omega)
    have c2 := C.2.1
    have c3 := C.2.2.1
    have hm := c_day_L G C ht ht2 hn (F := F) m (k + 1) f (dyS E th t k)
    have w1 := wa_dyS G hA h0 (by omega) (th := th)
    have w2 : (dyS E th t k).1 70 = now := (dyS_o G h0 (by omega) (by omega) (Or.inr rfl)).trans h70
    have w3 : ∀ i, k + 1 ≤ i → i < 14 → (dyS E th t k).1 i = F i := fun i i0 i1 => (dyS_o G h0 (by omega) (by omega) (Or.inl i1)).trans (hF i (by omega) i1)
    rw [fX9_goDay_L38, C.1]
    rw [C.1] at hm
    simp (disch := omega) only [gd_t, so_some, so_bind, so_gd, so_none, Option.bind_some, iI_add, iI_sub, iI_mul, iI_neg, iI_clamp, iI_nat, vin_i, iI_le, iI_lt, iI_eq, mn_i, mx_i, if_true, if_false, if_pos, if_neg, li_0, li_1, li_2, li_3, li_4, li_5, li_6, li_7, li_8, li_9, li_10, li_11, li_12, li_14, li_15, li_16, li_20, li_21, li_24, li_28, li_30, li_31, li_40, li_41, li_42, li_43, li_44, li_45, li_47, li_48, li_49, li_57, li_59, li_60, li_61, li_62, li_63, li_70, li_71, li_76, li_80, li_96, li_97, li_98, li_99, li_100, li_101, li_102, li_103, li_104, li_105, li_106, li_107, li_108, li_109, li_110, li_111, li_112, li_113, li_114, li_115, li_116, li_117, li_118, li_119, li_120, li_128, li_142, li_255, li_320, li_781, li_852, li_999, li_1000, li_2000, li_3000, li_9999, li_12345, li_65536, li_1000000, li_252645135, li_858993459, li_1103515245, li_1431655765, iI_div2, h1.at, c2.at, c3.at]
    by_cases q : t.1 k ≤ max 0 (E.2.1 (k / 2) - th)
    · rw [if_pos q]
      have d := dyS_1 q
      rw [d] at hm w1 w2 w3
      refine so_mono (hm sl st sd snow path things stack debt owedBy (by omega) (by omega) (by omega) hA h70 w3 h1 h2 h3 h4) ?_
      rintro o ⟨p1, p2, p3, p4, p5⟩
      rw [fk] at q
      simp only [dyI, cnt, stC, bts, d, if_pos q, Int.zero_add]
      exact ⟨p1, p2, p3, p4, p5⟩
    · rw [if_neg q]
      have d := dyS_2 q
      rw [d] at hm w1 w2 w3
      have key : ∀ (s0 s1 sd' : Int32), s1 ||| s0 = (st ||| (if E.2.2.1 k = k / 2 then (0 : Int32) else (1 : Int32) <<< (iI (E.2.2.1 k) &&& 31))) → sd' = sd ||| (1 <<< (iI k &&& 31)) →
          So (fX9_goDay_J140 (fX9_goDay_L38 cy inches (iI E.1) hold below le code (iI th) (iI now) f) cy inches (iI E.1) hold below le code (iI now) (iI k) (iI (k / 2)) s0 s1 (iI t.2.1) (iI (sl + 1)) sd' snow path things stack debt owedBy)
            (fun o => o.1 = iI (dyI E th (m + 1) k t).2.1 ∧ o.2.1 = iI (sl + cnt E th F (m + 1) k) ∧ o.2.2.1 = stC E th F (m + 1) k st ∧ o.2.2.2.1 = bts E th F (m + 1) k sd ∧ Arr 14 o.2.2.2.2.1 (dyI E th (m + 1) k t).1 ∧ Arr 7 o.2.2.2.2.2.1 (fun i => (dyI E th (m + 1) k t).1 (14 + i)) ∧
              Arr 49 o.2.2.2.2.2.2.2.2.1 (fun i => (dyI E th (m + 1) k t).1 (21 + i)) ∧ Arr 7 o.2.2.2.2.2.2.2.2.2 (dyI E th (m + 1) k t).2.2) := by
        intro s0 s1 sd' e1 e2
        unfold fX9_goDay_J140
        rw [so_bind]
        have hsl := c_slide G C hA (by omega) h1 h2 h3 h4 (ow := t.2.1) (s := k) (bl := k / 2) (x := 0) (things := things) (stack := stack) h0 (by omega) (by omega) (by omega) (Or.inl rfl)
        rw [h70, C.1] at hsl
        refine so_mono hsl ?_
        rintro o ⟨p1, p2, p3, p4, p5⟩
        rw [p1, e1, e2, li_1, iI_add]
        refine so_mono (hm (sl + 1) _ _ o.2.1 o.2.2.1 o.2.2.2.1 o.2.2.2.2.1 o.2.2.2.2.2.1 o.2.2.2.2.2.2 (by omega) (by omega) (by omega) w1 w2 w3 p2 p3 p4 p5) ?_
        rintro r ⟨r1, r2, r3, r4, r5⟩
        rw [fk] at q
        simp only [dyI, cnt, stC, bts, d, if_neg q]
        refine ⟨r1, ?_, r3, r4, r5⟩
        rw [r2]
        congr 1
        omega
      by_cases q2 : E.2.2.1 k = k / 2
      · rw [if_pos q2]
        refine key _ _ _ ?_ rfl
        rw [if_pos q2]
        rfl
      · rw [if_neg q2]
        refine key _ _ _ ?_ rfl
        rw [if_neg q2]
        rfl
/-- a day -/
def thw (E : EN) (A : Int → Int) : Int := max 0 (-(E.2.2.2.1 (A 70)))
def dyF (E : EN) (A : Int → Int) : Int → Int := faA E.1 (E.2.2.2.1 (A 70)) A
def dy (E : EN) (t : WS) : WS :=
  (upI (dyI E (thw E t.1) (2 * E.1).toNat 0 (dyF E t.1, t.2)).1 70 (t.1 70 + 1), (dyI E (thw E t.1) (2 * E.1).toNat 0 (dyF E t.1, t.2)).2)
theorem c_day {E : EN} (G : EnG E) {ho cy le : Int32} {hold below inches code : Nat → Int32} (C : EnC E ho cy le hold below inches code) {t : WS} (hA : WA t.1) (hn : t.1 70 < 2147483648) {sl : Int} {st sd : Int32}
    {snow path things stack debt owedBy : Nat → Int32} (h1 : Arr 14 snow t.1) (h2 : Arr 7 path (fun i => t.1 (14 + i))) (h3 : Arr 49 debt (fun i => t.1 (21 + i))) (h4 : Arr 7 owedBy t.2.2) :
    So (fX9_goDay (iI t.2.1) (iI sl) st sd (iI (t.1 70)) cy inches ho snow path hold below le things stack code debt owedBy)
      (fun o => o.1 = iI (dy E t).2.1 ∧ o.2.1 = iI (sl + cnt E (thw E t.1) (dyF E t.1) (2 * E.1).toNat 0) ∧ o.2.2.1 = stC E (thw E t.1) (dyF E t.1) (2 * E.1).toNat 0 st ∧ o.2.2.2.1 = bts E (thw E t.1) (dyF E t.1) (2 * E.1).toNat 0 0 ∧ o.2.2.2.2.1 = iI ((dy E t).1 70) ∧
        Arr 14 o.2.2.2.2.2.1 (dy E t).1 ∧ Arr 7 o.2.2.2.2.2.2.1 (fun i => (dy E t).1 (14 + i)) ∧ Arr 49 o.2.2.2.2.2.2.2.2.2.1 (fun i => (dy E t).1 (21 + i)) ∧ Arr 7 o.2.2.2.2.2.2.2.2.2.2 (dy E t).2.2) := by
  have g := G.1
  have w1 := G.2.2.2.1 (t.1 70)
  have a7 := hA.2.2
  have wF : WA (dyF E t.1) := wa_fa g.2 hA
  have F7 : dyF E t.1 70 = t.1 70 := fa70 g.2 _
  have e1 : max 0 (-(E.2.2.2.1 (t.1 70))) = thw E t.1 := rfl
  have key : ∀ (s p : Nat → Int32), Arr 14 s (dyF E t.1) → Arr 7 p (fun i => dyF E t.1 (14 + i)) →
      So (fX9_goDay_L38 cy inches (iI E.1) hold below le code (iI (thw E t.1)) (iI (t.1 70)) FU (iI 0) (iI t.2.1) (iI sl) st (iI 0) s p things stack debt owedBy)
      (fun o => o.1 = iI (dy E t).2.1 ∧ o.2.1 = iI (sl + cnt E (thw E t.1) (dyF E t.1) (2 * E.1).toNat 0) ∧ o.2.2.1 = stC E (thw E t.1) (dyF E t.1) (2 * E.1).toNat 0 st ∧ o.2.2.2.1 = bts E (thw E t.1) (dyF E t.1) (2 * E.1).toNat 0 0 ∧
        Arr 14 o.2.2.2.2.1 (dy E t).1 ∧ Arr 7 o.2.2.2.2.2.1 (fun i => (dy E t).1 (14 + i)) ∧ Arr 49 o.2.2.2.2.2.2.2.2.1 (fun i => (dy E t).1 (21 + i)) ∧ Arr 7 o.2.2.2.2.2.2.2.2.2 (dy E t).2.2) := by
    intro s p hs hp
    have hm := c_day_L G C (th := thw E t.1) (now := t.1 70) (by unfold thw; omega) (by unfold thw; omega) hn (F := dyF E t.1) (2 * E.1).toNat 0 FU (dyF E t.1, t.2) sl st (iI 0) s p things stack debt owedBy (by omega) (by omega) (show _ < 4000 by omega) wF F7 (fun _ _ _ => rfl) hs hp
      (h3.congr (fun x x0 x1 => by show _ = dyF E t.1 (21 + x); unfold dyF faA; rw [if_neg (by omega)])) h4
    rw [C.1] at hm
    refine so_mono hm ?_
    rintro o ⟨p1, p2, p3, p4, p5, p6, p7, p8⟩
    refine ⟨p1, p2, p3, p4, p5.congr (fun x x0 x1 => ?_), p6.congr (fun x x0 x1 => ?_), p7.congr (fun x x0 x1 => ?_), p8⟩
    · exact (upI_o _ (by omega)).symm
    · exact (upI_o _ (by omega)).symm
    · exact (upI_o _ (by omega)).symm
  have e70 : (dy E t).1 70 = t.1 70 + 1 := by
    simp only [dy, upI_s]
  unfold fX9_goDay
  rw [C.1, C.2.2.2.1 _ a7 hn]
  simp (disch := omega) only [gd_t, so_some, so_bind, so_gd, so_none, Option.bind_some, iI_add, iI_sub, iI_mul, iI_neg, iI_clamp, iI_nat, vin_i, iI_le, iI_lt, iI_eq, mn_i, mx_i, if_true, if_false, if_pos, if_neg, li_0, li_1, li_2, li_3, li_4, li_5, li_6, li_7, li_8, li_9, li_10, li_11, li_12, li_14, li_15, li_16, li_20, li_21, li_24, li_28, li_30, li_31, li_40, li_41, li_42, li_43, li_44, li_45, li_47, li_48, li_49, li_57, li_59, li_60, li_61, li_62, li_63, li_70, li_71, li_76, li_80, li_96, li_97, li_98, li_99, li_100, li_101, li_102, li_103, li_104, li_105, li_106, li_107, li_108, li_109, li_110, li_111, li_112, li_113, li_114, li_115, li_116, li_117, li_118, li_119, li_120, li_128, li_142, li_255, li_320, li_781, li_852, li_999, li_1000, li_2000, li_3000, li_9999, li_12345, li_65536, li_1000000, li_252645135, li_858993459, li_1103515245, li_1431655765, e1]
  by_cases q : E.2.2.2.1 (t.1 70) = 0
  · rw [if_pos q]
    have e0 : dyF E t.1 = t.1 := by
      funext i
      unfold dyF
      rw [q]
      exact fa_0 g.2 hA i
    have hk := key snow path (by rw [e0]; exact h1) (by rw [e0]; exact h2)
    rw [so_bind]
    refine so_mono hk ?_
    rintro o ⟨p1, p2, p3, p4, p5, p6, p7, p8⟩
    rw [so_some]
    exact ⟨p1, p2, p3, p4, by rw [e70], p5, p6, p7, p8⟩
  · rw [if_neg q]
    simp only [so_bind]
    refine so_mono (c_fall g.1 g.2 w1.1 w1.2 hA h1 h2) ?_
    rintro o ⟨q1, q2⟩
    refine so_mono (key o.1 o.2 q1 q2) ?_
    rintro o ⟨p1, p2, p3, p4, p5, p6, p7, p8⟩
    rw [so_some]
    exact ⟨p1, p2, p3, p4, by rw [e70], p5, p6, p7, p8⟩
