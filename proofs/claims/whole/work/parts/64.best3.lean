/-! the class's search -/
abbrev TN : Type := Int32 × (Nat → Int32) × (Nat → Int32) × (Nat → Int32) × (Nat → Int32) × (Nat → Nat → Int32) × (Nat → Int32) × (Nat → Int32) × (Nat → Int32) × (Nat → Nat → Int32) × (Nat → Nat → Int32) × (Nat → Nat → Int32) × (Nat → Int32) × (Nat → Int32)
abbrev TG : Type := Nat → Int32 → Int32 → Int32 → Int32 → (Nat → Int32) → (Nat → Int32) → (Nat → Int32) → (Nat → Int32) → (Nat → Nat → Int32) → (Nat → Int32) → (Nat → Int32) → (Nat → Int32) → (Nat → Nat → Int32) → (Nat → Nat → Int32) → (Nat → Nat → Int32) → Int32 → Int32 → Int32 → (Nat → Int32) → (Nat → Int32) → (Nat → Int32) → (Nat → Int32) → (Nat → Int32) → (Nat → Int32) → Int32 → Option TN
abbrev TC : Type := Int32 → Int32 → (Nat → Int32) → (Nat → Int32) → (Nat → Int32) → (Nat → Int32) → (Nat → Nat → Int32) → (Nat → Int32) → (Nat → Int32) → (Nat → Int32) → (Nat → Nat → Int32) → (Nat → Nat → Int32) → (Nat → Nat → Int32) → (Nat → Int32) → (Nat → Int32) → Option TN
def NS (t : WS) (i : Nat) (owed now : Nat → Int32) (ob snow path debt : Nat → Nat → Int32) : Prop := owed i = iI t.2.1 ∧ StC t.1 (now i) (snow i) (path i) (debt i) ∧ Arr 7 (ob i) t.2.2
def Kp (K : Nat) (owed now : Nat → Int32) (ob snow path debt : Nat → Nat → Int32) (owed' now' : Nat → Int32) (ob' snow' path' debt' : Nat → Nat → Int32) : Prop :=
  ∀ i, i ≤ K → owed' i = owed i ∧ now' i = now i ∧ ob' i = ob i ∧ snow' i = snow i ∧ path' i = path i ∧ debt' i = debt i
theorem Kp.rfl {K : Nat} {owed now : Nat → Int32} {ob snow path debt : Nat → Nat → Int32} : Kp K owed now ob snow path debt owed now ob snow path debt := fun _ _ => ⟨Eq.refl _, Eq.refl _, Eq.refl _, Eq.refl _, Eq.refl _, Eq.refl _⟩
theorem Kp.trans {K : Nat} {owed now : Nat → Int32} {ob snow path debt : Nat → Nat → Int32} {owed1 now1 : Nat → Int32} {ob1 snow1 path1 debt1 : Nat → Nat → Int32} {owed2 now2 : Nat → Int32} {ob2 snow2 path2 debt2 : Nat → Nat → Int32} (h : Kp K owed now ob snow path debt owed1 now1 ob1 snow1 path1 debt1) (g : Kp K owed1 now1 ob1 snow1 path1 debt1 owed2 now2 ob2 snow2 path2 debt2) : Kp K owed now ob snow path debt owed2 now2 ob2 snow2 path2 debt2 := fun i hi => by
  obtain ⟨a1, a2, a3, a4, a5, a6⟩ := h i hi
  obtain ⟨b1, b2, b3, b4, b5, b6⟩ := g i hi
  exact ⟨b1.trans a1, b2.trans a2, b3.trans a3, b4.trans a4, b5.trans a5, b6.trans a6⟩
theorem Kp.up {K k : Nat} (hk : K < k) {owed now : Nat → Int32} {ob snow path debt : Nat → Nat → Int32} (a1 a2 : Int32) (a3 a4 a5 a6 : Nat → Int32) : Kp K owed now ob snow path debt (va_up owed k a1) (va_up now k a2) (va_up ob k a3) (va_up snow k a4) (va_up path k a5) (va_up debt k a6) := fun i hi => by
  have h : i ≠ k := by omega
  exact ⟨va_up_ne _ _ h, va_up_ne _ _ h, va_up_ne _ _ h, va_up_ne _ _ h, va_up_ne _ _ h, va_up_ne _ _ h⟩
theorem Kp.up2 {K k : Nat} (hk : K < k) {owed now : Nat → Int32} {ob snow path debt : Nat → Nat → Int32} (a1 a2 : Int32) (a3 a4 a5 a6 a7 : Nat → Int32) : Kp K owed now ob snow path debt (va_up owed k a1) (va_up now k a2) (va_up ob k a3) (va_up (va_up snow k a4) k a7) (va_up path k a5) (va_up debt k a6) := fun i hi => by
  have h : i ≠ k := by omega
  exact ⟨va_up_ne _ _ h, va_up_ne _ _ h, va_up_ne _ _ h, by rw [va_up_ne _ _ h, va_up_ne _ _ h], va_up_ne _ _ h, va_up_ne _ _ h⟩
theorem Kp.le {K k : Nat} (hk : K ≤ k) {owed now : Nat → Int32} {ob snow path debt : Nat → Nat → Int32} {owed1 now1 : Nat → Int32} {ob1 snow1 path1 debt1 : Nat → Nat → Int32} (h : Kp k owed now ob snow path debt owed1 now1 ob1 snow1 path1 debt1) : Kp K owed now ob snow path debt owed1 now1 ob1 snow1 path1 debt1 := fun i hi => h i (by omega)
theorem NS.kp {t : WS} {K i : Nat} (hi : i ≤ K) {owed now : Nat → Int32} {ob snow path debt : Nat → Nat → Int32} {owed1 now1 : Nat → Int32} {ob1 snow1 path1 debt1 : Nat → Nat → Int32} (h : NS t i owed now ob snow path debt) (k : Kp K owed now ob snow path debt owed1 now1 ob1 snow1 path1 debt1) : NS t i owed1 now1 ob1 snow1 path1 debt1 := by
  obtain ⟨a1, a2, a3, a4, a5, a6⟩ := k i hi
  unfold NS
  rw [a1, a2, a3, a4, a5, a6]
  exact h
def TR (K : Nat) (b : BE) (chosen owed now : Nat → Int32) (ob snow path debt : Nat → Nat → Int32) (o : TN) : Prop :=
  o.1 = iI b.1 ∧ Re o.2.2.2.2.2.2.1 b.2 ∧ Kp K owed now ob snow path debt o.2.1 o.2.2.2.2.2.2.2.2.1 o.2.2.2.2.2.1 o.2.2.2.2.2.2.2.2.2.1 o.2.2.2.2.2.2.2.2.2.2.1 o.2.2.2.2.2.2.2.2.2.2.2.1 ∧ ∀ j, j < K → o.2.2.2.2.2.2.2.1 j = chosen j
def SN (E : EN) (h hs n : Int) (cy ho le : Int32) (inches hold below code : Nat → Int32) (G : TG) (K k : Nat) : Prop :=
  ∀ (t : WS) (p : List Int) (b : BE) (owed slides struck slid : Nat → Int32) (ob : Nat → Nat → Int32) (bestRow chosen now : Nat → Int32) (snow path debt : Nat → Nat → Int32) (things stack : Nat → Int32), GT E t → t.1 70 + k < 2147483648 → p.length = K → Re chosen p → Re bestRow b.2 → 0 ≤ cst hs t → cst hs t < b.1 → b.1 ≤ 1000000 → NS t K owed now ob snow path debt →
    So (G 0 (iI hs) (iI n) (iI h) (iI b.1) owed slides struck slid ob bestRow chosen now snow path debt cy ho le inches hold below things stack code (iI K)) (TR K (bM E h hs k t p b) chosen owed now ob snow path debt)
theorem c_cost {hs : Int} (s0 : -1 ≤ hs) (s1 : hs < 7) {t : WS} {ow : Int32} {ob : Nat → Int32} (h1 : ow = iI t.2.1) (h2 : Arr 7 ob t.2.2) : fX1_costOf (iI hs) ow ob = some (iI (cst hs t)) := by
  unfold fX1_costOf cst
  by_cases q : hs = -1
  · rw [if_pos q, h1]
    simp (disch := omega) only [gd_t, so_some, so_bind, so_gd, so_none, Option.bind_some, iI_add, iI_sub, iI_mul, iI_neg, iI_clamp, iI_nat, vin_i, iI_le, iI_lt, iI_eq, mn_i, mx_i, if_true, if_false, if_pos, if_neg, li_0, li_1, li_2, li_3, li_4, li_5, li_6, li_7, li_8, li_9, li_10, li_11, li_12, li_14, li_15, li_16, li_20, li_21, li_24, li_28, li_30, li_31, li_40, li_41, li_42, li_43, li_44, li_45, li_47, li_48, li_49, li_57, li_59, li_60, li_61, li_62, li_63, li_70, li_71, li_76, li_80, li_96, li_97, li_98, li_99, li_100, li_101, li_102, li_103, li_104, li_105, li_106, li_107, li_108, li_109, li_110, li_111, li_112, li_113, li_114, li_115, li_116, li_117, li_118, li_119, li_120, li_128, li_142, li_255, li_320, li_781, li_852, li_999, li_1000, li_2000, li_3000, li_9999, li_12345, li_65536, li_1000000, li_252645135, li_858993459, li_1103515245, li_1431655765]
  · rw [if_neg q]
    simp (disch := omega) only [gd_t, so_some, so_bind, so_gd, so_none, Option.bind_some, iI_add, iI_sub, iI_mul, iI_neg, iI_clamp, iI_nat, vin_i, iI_le, iI_lt, iI_eq, mn_i, mx_i, if_true, if_false, if_pos, if_neg, li_0, li_1, li_2, li_3, li_4, li_5, li_6, li_7, li_8, li_9, li_10, li_11, li_12, li_14, li_15, li_16, li_20, li_21, li_24, li_28, li_30, li_31, li_40, li_41, li_42, li_43, li_44, li_45, li_47, li_48, li_49, li_57, li_59, li_60, li_61, li_62, li_63, li_70, li_71, li_76, li_80, li_96, li_97, li_98, li_99, li_100, li_101, li_102, li_103, li_104, li_105, li_106, li_107, li_108, li_109, li_110, li_111, li_112, li_113, li_114, li_115, li_116, li_117, li_118, li_119, li_120, li_128, li_142, li_255, li_320, li_781, li_852, li_999, li_1000, li_2000, li_3000, li_9999, li_12345, li_65536, li_1000000, li_252645135, li_858993459, li_1103515245, li_1431655765, h2.at]
theorem Re.upd {c : Nat → Int32} {p : List Int} (h : Re c p) (s : Int) : Re (upd c p.length (iI s)) (p ++ [s]) := by
  intro j x hx
  by_cases q : j < p.length
  · rw [List.getElem?_append_left q] at hx
    rw [upd_o _ _ (by omega)]
    exact h j x hx
  · rw [List.getElem?_append_right (by omega)] at hx
    have jm : j = p.length := by
      by_cases w : j = p.length
      · exact w
      · rw [List.getElem?_eq_none (by show 1 ≤ j - p.length; omega)] at hx
        cases hx
    subst jm
    rw [Nat.sub_self] at hx
    have : s = x := by simpa using hx
    rw [upd_s, this]
theorem c_follow {t : WS} {i : Nat} {owed now : Nat → Int32} {ob snow path debt : Nat → Nat → Int32} (N : NS t i owed now ob snow path debt) (o1 n1 : Int32) (s1 p1 d1 b1 : Nat → Int32) : So (fX9_follow o1 n1 s1 p1 d1 b1 (owed i) (now i) (snow i) (path i) (debt i) (ob i)) (fun o => o.1 = iI t.2.1 ∧ StC t.1 o.2.1 o.2.2.1 o.2.2.2.1 o.2.2.2.2.1 ∧ Arr 7 o.2.2.2.2.2 t.2.2) := by
  unfold fX9_follow
  rw [so_bind]
  refine so_mono (c_takeFrom N.2.1 n1 s1 p1 d1) ?_
  intro o ho
  rw [so_some]
  exact ⟨N.1, ho, Arr.cp (n := 7) N.2.2⟩
theorem c_J114_0 {E : EN} (G : EnG E) {cy ho le : Int32} {hold below inches code : Nat → Int32} (C : EnC E ho cy le hold below inches code) {h hs n : Int} (s0 : -1 ≤ hs) (s1 : hs < 7) {k : Nat} {g : TG} (hG : SN E h hs n cy ho le inches hold below code g 1 k) {rc : TC} {Q : TN → Prop} {u : WS} {p : List Int} {b : BE} {s : Int} (hu : GT E u) (u7 : u.1 70 + 1 + k < 2147483648) (hp : p.length = 0) {chosen bestRow : Nat → Int32} (hc : Re chosen p) (hr : Re bestRow b.2) (c0 : 0 ≤ cst hs u) (c1 : cst hs u ≤ 1000000) (b0 : 0 ≤ b.1) (b1 : b.1 ≤ 1000000)
    {owed slides struck slid now : Nat → Int32} {ob snow path debt : Nat → Nat → Int32} (N : NS u 1 owed now ob snow path debt) (things stack : Nat → Int32)
    (hrc : ∀ o : TN, TR 0 (bM E h hs k (dy E u) (p ++ [s]) b) chosen owed now ob snow path debt o → So (rc (iI (s + 1)) o.1 o.2.1 o.2.2.1 o.2.2.2.1 o.2.2.2.2.1 o.2.2.2.2.2.1 o.2.2.2.2.2.2.1 o.2.2.2.2.2.2.2.1 o.2.2.2.2.2.2.2.2.1 o.2.2.2.2.2.2.2.2.2.1 o.2.2.2.2.2.2.2.2.2.2.1 o.2.2.2.2.2.2.2.2.2.2.2.1 o.2.2.2.2.2.2.2.2.2.2.2.2.1 o.2.2.2.2.2.2.2.2.2.2.2.2.2) Q) :
    So (fX1_tryNight_J114_0 rc g (iI hs) (iI n) (iI h) cy ho le inches hold below code (iI s) (iI b.1) owed slides struck slid ob bestRow chosen now snow path debt things stack) Q := by
  obtain ⟨S, hS, S0, S1⟩ := iI_of (slides 1)
  have W : Wk ((u, S, struck 1, slid 1) : FW) (owed 1) (slides 1) (struck 1) (slid 1) (now 1) (snow 1) (path 1) (debt 1) (ob 1) := ⟨N.1, hS, rfl, rfl, N.2.1, N.2.2⟩
  have cd := cst_dy G hs u
  have cd7 := dy_70 E u
  unfold fX1_tryNight_J114_0
  rw [so_bind]
  refine so_mono (c_goDay G C hu.1 (by show u.1 70 < _; omega) W things stack) ?_
  rintro o ⟨w1, w2, w3, w4, w5, w6⟩
  have N2 : NS (dy E u) 1 (va_up owed 1 o.1) (va_up now 1 o.2.2.2.2.1) (va_up ob 1 o.2.2.2.2.2.2.2.2.2.2) (va_up snow 1 o.2.2.2.2.2.1) (va_up path 1 o.2.2.2.2.2.2.1) (va_up debt 1 o.2.2.2.2.2.2.2.2.2.1) := by
    unfold NS
    rw [va_up_self, va_up_self, va_up_self, va_up_self, va_up_self, va_up_self]
    exact ⟨w1, w5, w6⟩
  have kp : Kp 0 owed now ob snow path debt (va_up owed 1 o.1) (va_up now 1 o.2.2.2.2.1) (va_up ob 1 o.2.2.2.2.2.2.2.2.2.2) (va_up snow 1 o.2.2.2.2.2.1) (va_up path 1 o.2.2.2.2.2.2.1) (va_up debt 1 o.2.2.2.2.2.2.2.2.2.1) := Kp.up (by omega) _ _ _ _ _ _
  have co := c_cost s0 s1 N2.1 N2.2.2
  have eu : (0 : Int32).toNatClampNeg = p.length := by rw [hp]; rfl
  have cu := hc.upd s
  have es : iI s + 1 = iI (s + 1) := by rw [li_1, iI_add]
  rw [so_gd (by rfl), co, Option.bind_some, eu]
  have cj : ∀ j, j < 0 → upd chosen p.length (iI s) j = chosen j := fun j hj => upd_o _ _ (by omega)
  by_cases q : b.1 ≤ cst hs (dy E u)
  · rw [if_pos ((iI_le (by omega) (by omega) (by omega) (by omega)).2 q), es]
    have e := bM_ge G k (dy E u) (p ++ [s]) b (h := h) q
    rw [e] at hrc
    exact hrc (iI b.1, va_up owed 1 o.1, va_up slides 1 o.2.1, va_up struck 1 o.2.2.1, va_up slid 1 o.2.2.2.1, va_up ob 1 o.2.2.2.2.2.2.2.2.2.2, bestRow, upd chosen p.length (iI s), va_up now 1 o.2.2.2.2.1, va_up snow 1 o.2.2.2.2.2.1, va_up path 1 o.2.2.2.2.2.2.1, va_up debt 1 o.2.2.2.2.2.2.2.2.2.1, o.2.2.2.2.2.2.2.1, o.2.2.2.2.2.2.2.2.1) ⟨rfl, hr, kp, cj⟩
  · rw [if_neg (fun z => q ((iI_le (by omega) (by omega) (by omega) (by omega)).1 z)), es, so_bind]
    have r := hG (dy E u) (p ++ [s]) b (va_up owed 1 o.1) (va_up slides 1 o.2.1) (va_up struck 1 o.2.2.1) (va_up slid 1 o.2.2.2.1) (va_up ob 1 o.2.2.2.2.2.2.2.2.2.2) bestRow (upd chosen p.length (iI s)) (va_up now 1 o.2.2.2.2.1) (va_up snow 1 o.2.2.2.2.2.1) (va_up path 1 o.2.2.2.2.2.2.1) (va_up debt 1 o.2.2.2.2.2.2.2.2.2.1) o.2.2.2.2.2.2.2.1 o.2.2.2.2.2.2.2.2.1 ⟨wa_dy G hu.1, zb_dy G hu.2⟩ (by rw [cd7]; omega) (by rw [List.length_append, hp]; rfl) cu hr (by omega) (by omega) b1 N2
    refine so_mono r ?_
    rintro v ⟨v1, v2, v3, v4⟩
    exact hrc v ⟨v1, v2, kp.trans (v3.le (by omega)), fun j hj => (v4 j (by omega)).trans (cj j hj)⟩
theorem c_L61_0 {E : EN} (G : EnG E) {cy ho le : Int32} {hold below inches code : Nat → Int32} (C : EnC E ho cy le hold below inches code) {h hs n : Int} (h1 : 1 ≤ h) (h2 : h ≤ 99) (s0 : -1 ≤ hs) (s1 : hs < 7) {k : Nat} {g : TG} (hG : SN E h hs n cy ho le inches hold below code g 1 k) {t : WS} {p : List Int} (ht : GT E t) (t7 : t.1 70 + 1 + k < 2147483648) (hp : p.length = 0) (c0 : 0 ≤ cst hs t) (c1 : cst hs t ≤ 1000000) :
    ∀ (m : Nat) (s : Int) (f : Nat) (b : BE) (owed slides struck slid : Nat → Int32) (ob : Nat → Nat → Int32) (bestRow chosen now : Nat → Int32) (snow path debt : Nat → Nat → Int32) (things stack : Nat → Int32), 0 ≤ s → s + m = 15 → m < f → Re chosen p → Re bestRow b.2 → 0 ≤ b.1 → b.1 ≤ 1000000 → NS t 0 owed now ob snow path debt →
      So (fX1_tryNight_L61_0 g (iI hs) (iI n) (iI h) cy ho le inches hold below code f (iI s) (iI b.1) owed slides struck slid ob bestRow chosen now snow path debt things stack) (TR 0 (bF (fun s b => if cho hs t s then bM E h hs k (pst E h s t) (p ++ [s]) b else b) m s b) chosen owed now ob snow path debt) := by
  intro m
  induction m with
  | zero =>
    intro s f b owed slides struck slid ob bestRow chosen now snow path debt things stack a0 a1 hf hc hr b0 b1 N
    obtain ⟨f, rfl⟩ : ∃ g, f = g + 1 := ⟨f - 1, by omega⟩
    rw [fX1_tryNight_L61_0]
    simp (disch := omega) only [gd_t, so_some, so_bind, so_gd, so_none, Option.bind_some, iI_add, iI_sub, iI_mul, iI_neg, iI_clamp, iI_nat, vin_i, iI_le, iI_lt, iI_eq, mn_i, mx_i, if_true, if_false, if_pos, if_neg, li_0, li_1, li_2, li_3, li_4, li_5, li_6, li_7, li_8, li_9, li_10, li_11, li_12, li_14, li_15, li_16, li_20, li_21, li_24, li_28, li_30, li_31, li_40, li_41, li_42, li_43, li_44, li_45, li_47, li_48, li_49, li_57, li_59, li_60, li_61, li_62, li_63, li_70, li_71, li_76, li_80, li_96, li_97, li_98, li_99, li_100, li_101, li_102, li_103, li_104, li_105, li_106, li_107, li_108, li_109, li_110, li_111, li_112, li_113, li_114, li_115, li_116, li_117, li_118, li_119, li_120, li_128, li_142, li_255, li_320, li_781, li_852, li_999, li_1000, li_2000, li_3000, li_9999, li_12345, li_65536, li_1000000, li_252645135, li_858993459, li_1103515245, li_1431655765]
    exact ⟨rfl, hr, Kp.rfl, fun _ _ => rfl⟩
  | succ m ih =>
    intro s f b owed slides struck slid ob bestRow chosen now snow path debt things stack a0 a1 hf hc hr b0 b1 N
    obtain ⟨f, rfl⟩ : ∃ g, f = g + 1 := ⟨f - 1, by omega⟩
    have sa := ht.1.1 s a0 (by omega)
    rw [bF]
    -- what follows a choice
    have fin : ∀ (b' : BE) (chosen' owed' now' : Nat → Int32) (ob' snow' path' debt' : Nat → Nat → Int32) (o : TN), 0 ≤ b'.1 → b'.1 ≤ 1000000 → Kp 0 owed now ob snow path debt owed' now' ob' snow' path' debt' → (∀ j, j < 0 → chosen' j = chosen j) → TR 0 b' chosen' owed' now' ob' snow' path' debt' o →
        So (fX1_tryNight_L61_0 g (iI hs) (iI n) (iI h) cy ho le inches hold below code f (iI (s + 1)) o.1 o.2.1 o.2.2.1 o.2.2.2.1 o.2.2.2.2.1 o.2.2.2.2.2.1 o.2.2.2.2.2.2.1 o.2.2.2.2.2.2.2.1 o.2.2.2.2.2.2.2.2.1 o.2.2.2.2.2.2.2.2.2.1 o.2.2.2.2.2.2.2.2.2.2.1 o.2.2.2.2.2.2.2.2.2.2.2.1 o.2.2.2.2.2.2.2.2.2.2.2.2.1 o.2.2.2.2.2.2.2.2.2.2.2.2.2) (TR 0 (bF (fun s b => if cho hs t s then bM E h hs k (pst E h s t) (p ++ [s]) b else b) m (s + 1) b') chosen owed now ob snow path debt) := by
      intro b' chosen' owed' now' ob' snow' path' debt' o b0' b1' kp cp ⟨o1, o2, o3, o4⟩
      rw [o1]
      have kk := kp.trans o3
      have hc2 : Re o.2.2.2.2.2.2.2.1 p := fun j x hx => by
        have hj : j < 0 := by
          by_cases w : j < 0
          · exact w
          · rw [List.getElem?_eq_none (by omega)] at hx
            cases hx
        rw [o4 j hj, cp j hj]
        exact hc j x hx
      refine so_mono (ih (s + 1) f b' _ _ _ _ _ _ _ _ _ _ _ _ _ (by omega) (by omega) (by omega) hc2 o2 b0' b1' (N.kp (Nat.le_refl _) kk)) ?_
      rintro v ⟨v1, v2, v3, v4⟩
      exact ⟨v1, v2, kk.trans v3, fun j hj => (v4 j hj).trans ((o4 j hj).trans (cp j hj))⟩
    have go : cho hs t s → So (fX1_tryNight_J88_0 (fX1_tryNight_L61_0 g (iI hs) (iI n) (iI h) cy ho le inches hold below code f) g (iI hs) (iI n) (iI h) cy ho le inches hold below code (iI s) (iI b.1) owed slides struck slid ob bestRow chosen now snow path debt things stack) (TR 0 (bF (fun s b => if cho hs t s then bM E h hs k (pst E h s t) (p ++ [s]) b else b) m (s + 1) (bM E h hs k (pst E h s t) (p ++ [s]) b)) chosen owed now ob snow path debt) := by
      intro hch
      have gs := swp_ok G h1 ht a0 (by omega) hch
      have cs := cst_swp hs h s t
      have bl := bM_le (E := E) (h := h) (hs := hs) k (pst E h s t) (p ++ [s]) b
      have bn := bM_nn G (h := h) (hs := hs) k (pst E h s t) (p ++ [s]) b (by have := cst_pst G hs h s t; omega) b0
      unfold fX1_tryNight_J88_0
      rw [so_bind]
      refine so_mono (c_follow N _ _ _ _ _ _) ?_
      rintro o ⟨w1, w2, w3⟩
      by_cases q : s = 14
      · have e : swp h s t = t := by unfold swp; rw [if_pos q]
        rw [if_pos (by rw [li_14]; exact (iI_le (by omega) (by omega) (by omega) (by omega)).2 (by omega))]
        refine c_J114_0 G C s0 s1 hG (u := swp h s t) (p := p) (b := b) (s := s) gs.1 (by rw [gs.2.1]; omega) hp hc hr (by omega) (by omega) b0 b1 ?_ things stack ?_
        · rw [e]
          unfold NS
          rw [va_up_self, va_up_self, va_up_self, va_up_self, va_up_self, va_up_self]
          exact ⟨w1, w2, w3⟩
        · intro v hv
          exact fin _ _ _ _ _ _ _ _ v bn (by omega) (Kp.up (by omega) _ _ _ _ _ _) (fun _ _ => rfl) hv
      · have e : swp h s t = (swA t.1 s (min h (t.1 s)), t.2) := by unfold swp; rw [if_neg q]
        rw [if_neg (by rw [li_14]; exact fun z => absurd ((iI_le (by omega) (by omega) (by omega) (by omega)).1 z) (by omega)), va_up_self, so_bind]
        refine so_mono (c_shift ht.1 w2.2.1 a0 (by omega) (by omega) (by omega)) ?_
        rintro o2 ⟨-, w4⟩
        refine c_J114_0 G C s0 s1 hG (u := swp h s t) (p := p) (b := b) (s := s) gs.1 (by rw [gs.2.1]; omega) hp hc hr (by omega) (by omega) b0 b1 ?_ things stack ?_
        · rw [e]
          unfold NS
          rw [va_up_self, va_up_self, va_up_self, va_up_self, va_up_self, va_up_self]
          refine ⟨w1, ⟨?_, w4, ?_, ?_⟩, w3⟩
          · rw [w2.1]
            show iI (t.1 70) = iI (swA t.1 s (min h (t.1 s)) 70)
            rw [sw_hi a0 (by omega) (by omega)]
          · exact w2.2.2.1.congr (fun x x0 x1 => (sw_hi a0 (by omega) (by omega)).symm)
          · exact w2.2.2.2.congr (fun x x0 x1 => (sw_hi a0 (by omega) (by omega)).symm)
        · intro v hv
          exact fin _ _ _ _ _ _ _ _ v bn (by omega) (Kp.up2 (by omega) _ _ _ _ _ _ _) (fun _ _ => rfl) hv
    rw [fX1_tryNight_L61_0]
    by_cases q : s = 14
    · have hch : cho hs t s := Or.inl q
      have := go hch
      rw [if_pos hch]
      simp (disch := omega) only [gd_t, so_some, so_bind, so_gd, so_none, Option.bind_some, iI_add, iI_sub, iI_mul, iI_neg, iI_clamp, iI_nat, vin_i, iI_le, iI_lt, iI_eq, mn_i, mx_i, if_true, if_false, if_pos, if_neg, li_0, li_1, li_2, li_3, li_4, li_5, li_6, li_7, li_8, li_9, li_10, li_11, li_12, li_14, li_15, li_16, li_20, li_21, li_24, li_28, li_30, li_31, li_40, li_41, li_42, li_43, li_44, li_45, li_47, li_48, li_49, li_57, li_59, li_60, li_61, li_62, li_63, li_70, li_71, li_76, li_80, li_96, li_97, li_98, li_99, li_100, li_101, li_102, li_103, li_104, li_105, li_106, li_107, li_108, li_109, li_110, li_111, li_112, li_113, li_114, li_115, li_116, li_117, li_118, li_119, li_120, li_128, li_142, li_255, li_320, li_781, li_852, li_999, li_1000, li_2000, li_3000, li_9999, li_12345, li_65536, li_1000000, li_252645135, li_858993459, li_1103515245, li_1431655765]
      exact this
    · have ns := N.2.1.2.1
      have d2 : iI s / iI 2 = iI (s / 2) := iI_div2 (by omega) (by omega)
      have noc : ¬ cho hs t s → So (fX1_tryNight_L61_0 g (iI hs) (iI n) (iI h) cy ho le inches hold below code f (iI (s + 1)) (iI b.1) owed slides struck slid ob bestRow chosen now snow path debt things stack) (TR 0 (bF (fun s b => if cho hs t s then bM E h hs k (pst E h s t) (p ++ [s]) b else b) m (s + 1) b) chosen owed now ob snow path debt) := fun _ => ih (s + 1) f b owed slides struck slid ob bestRow chosen now snow path debt things stack (by omega) (by omega) (by omega) hc hr b0 b1 N
      by_cases q0 : t.1 s ≤ 0
      · have hch : ¬ cho hs t s := by
          rintro (z | ⟨z, -⟩)
          · exact q z
          · omega
        have := noc hch
        rw [if_neg hch]
        unfold fX1_isChoice
        simp (disch := omega) only [gd_t, so_some, so_bind, so_gd, so_none, Option.bind_some, iI_add, iI_sub, iI_mul, iI_neg, iI_clamp, iI_nat, vin_i, iI_le, iI_lt, iI_eq, mn_i, mx_i, if_true, if_false, if_pos, if_neg, li_0, li_1, li_2, li_3, li_4, li_5, li_6, li_7, li_8, li_9, li_10, li_11, li_12, li_14, li_15, li_16, li_20, li_21, li_24, li_28, li_30, li_31, li_40, li_41, li_42, li_43, li_44, li_45, li_47, li_48, li_49, li_57, li_59, li_60, li_61, li_62, li_63, li_70, li_71, li_76, li_80, li_96, li_97, li_98, li_99, li_100, li_101, li_102, li_103, li_104, li_105, li_106, li_107, li_108, li_109, li_110, li_111, li_112, li_113, li_114, li_115, li_116, li_117, li_118, li_119, li_120, li_128, li_142, li_255, li_320, li_781, li_852, li_999, li_1000, li_2000, li_3000, li_9999, li_12345, li_65536, li_1000000, li_252645135, li_858993459, li_1103515245, li_1431655765, ns.at]
        exact this
      · by_cases q1 : hs = -1
        · have hch : cho hs t s := Or.inr ⟨by omega, Or.inl q1⟩
          have := go hch
          rw [if_pos hch]
          unfold fX1_isChoice
          simp (disch := omega) only [gd_t, so_some, so_bind, so_gd, so_none, Option.bind_some, iI_add, iI_sub, iI_mul, iI_neg, iI_clamp, iI_nat, vin_i, iI_le, iI_lt, iI_eq, mn_i, mx_i, if_true, if_false, if_pos, if_neg, li_0, li_1, li_2, li_3, li_4, li_5, li_6, li_7, li_8, li_9, li_10, li_11, li_12, li_14, li_15, li_16, li_20, li_21, li_24, li_28, li_30, li_31, li_40, li_41, li_42, li_43, li_44, li_45, li_47, li_48, li_49, li_57, li_59, li_60, li_61, li_62, li_63, li_70, li_71, li_76, li_80, li_96, li_97, li_98, li_99, li_100, li_101, li_102, li_103, li_104, li_105, li_106, li_107, li_108, li_109, li_110, li_111, li_112, li_113, li_114, li_115, li_116, li_117, li_118, li_119, li_120, li_128, li_142, li_255, li_320, li_781, li_852, li_999, li_1000, li_2000, li_3000, li_9999, li_12345, li_65536, li_1000000, li_252645135, li_858993459, li_1103515245, li_1431655765, ns.at]
          exact this
        · by_cases q2 : s / 2 = hs
          · have hch : cho hs t s := Or.inr ⟨by omega, Or.inr q2⟩
            have := go hch
            rw [if_pos hch]
            unfold fX1_isChoice
            simp (disch := omega) only [gd_t, so_some, so_bind, so_gd, so_none, Option.bind_some, iI_add, iI_sub, iI_mul, iI_neg, iI_clamp, iI_nat, vin_i, iI_le, iI_lt, iI_eq, mn_i, mx_i, if_true, if_false, if_pos, if_neg, li_0, li_1, li_2, li_3, li_4, li_5, li_6, li_7, li_8, li_9, li_10, li_11, li_12, li_14, li_15, li_16, li_20, li_21, li_24, li_28, li_30, li_31, li_40, li_41, li_42, li_43, li_44, li_45, li_47, li_48, li_49, li_57, li_59, li_60, li_61, li_62, li_63, li_70, li_71, li_76, li_80, li_96, li_97, li_98, li_99, li_100, li_101, li_102, li_103, li_104, li_105, li_106, li_107, li_108, li_109, li_110, li_111, li_112, li_113, li_114, li_115, li_116, li_117, li_118, li_119, li_120, li_128, li_142, li_255, li_320, li_781, li_852, li_999, li_1000, li_2000, li_3000, li_9999, li_12345, li_65536, li_1000000, li_252645135, li_858993459, li_1103515245, li_1431655765, ns.at, d2]
            exact this
          · have hch : ¬ cho hs t s := by
              rintro (z | ⟨-, z | z⟩)
              · exact q z
              · exact q1 z
              · exact q2 z
            have := noc hch
            rw [if_neg hch]
            unfold fX1_isChoice
            simp (disch := omega) only [gd_t, so_some, so_bind, so_gd, so_none, Option.bind_some, iI_add, iI_sub, iI_mul, iI_neg, iI_clamp, iI_nat, vin_i, iI_le, iI_lt, iI_eq, mn_i, mx_i, if_true, if_false, if_pos, if_neg, li_0, li_1, li_2, li_3, li_4, li_5, li_6, li_7, li_8, li_9, li_10, li_11, li_12, li_14, li_15, li_16, li_20, li_21, li_24, li_28, li_30, li_31, li_40, li_41, li_42, li_43, li_44, li_45, li_47, li_48, li_49, li_57, li_59, li_60, li_61, li_62, li_63, li_70, li_71, li_76, li_80, li_96, li_97, li_98, li_99, li_100, li_101, li_102, li_103, li_104, li_105, li_106, li_107, li_108, li_109, li_110, li_111, li_112, li_113, li_114, li_115, li_116, li_117, li_118, li_119, li_120, li_128, li_142, li_255, li_320, li_781, li_852, li_999, li_1000, li_2000, li_3000, li_9999, li_12345, li_65536, li_1000000, li_252645135, li_858993459, li_1103515245, li_1431655765, ns.at, d2]
            exact this
theorem c_J114_1 {E : EN} (G : EnG E) {cy ho le : Int32} {hold below inches code : Nat → Int32} (C : EnC E ho cy le hold below inches code) {h hs n : Int} (s0 : -1 ≤ hs) (s1 : hs < 7) {k : Nat} {g : TG} (hG : SN E h hs n cy ho le inches hold below code g 2 k) {rc : TC} {Q : TN → Prop} {u : WS} {p : List Int} {b : BE} {s : Int} (hu : GT E u) (u7 : u.1 70 + 1 + k < 2147483648) (hp : p.length = 1) {chosen bestRow : Nat → Int32} (hc : Re chosen p) (hr : Re bestRow b.2) (c0 : 0 ≤ cst hs u) (c1 : cst hs u ≤ 1000000) (b0 : 0 ≤ b.1) (b1 : b.1 ≤ 1000000)
    {owed slides struck slid now : Nat → Int32} {ob snow path debt : Nat → Nat → Int32} (N : NS u 2 owed now ob snow path debt) (things stack : Nat → Int32)
    (hrc : ∀ o : TN, TR 1 (bM E h hs k (dy E u) (p ++ [s]) b) chosen owed now ob snow path debt o → So (rc (iI (s + 1)) o.1 o.2.1 o.2.2.1 o.2.2.2.1 o.2.2.2.2.1 o.2.2.2.2.2.1 o.2.2.2.2.2.2.1 o.2.2.2.2.2.2.2.1 o.2.2.2.2.2.2.2.2.1 o.2.2.2.2.2.2.2.2.2.1 o.2.2.2.2.2.2.2.2.2.2.1 o.2.2.2.2.2.2.2.2.2.2.2.1 o.2.2.2.2.2.2.2.2.2.2.2.2.1 o.2.2.2.2.2.2.2.2.2.2.2.2.2) Q) :
    So (fX1_tryNight_J114_1 rc g (iI hs) (iI n) (iI h) cy ho le inches hold below code (iI s) (iI b.1) owed slides struck slid ob bestRow chosen now snow path debt things stack) Q := by
  obtain ⟨S, hS, S0, S1⟩ := iI_of (slides 2)
  have W : Wk ((u, S, struck 2, slid 2) : FW) (owed 2) (slides 2) (struck 2) (slid 2) (now 2) (snow 2) (path 2) (debt 2) (ob 2) := ⟨N.1, hS, rfl, rfl, N.2.1, N.2.2⟩
  have cd := cst_dy G hs u
  have cd7 := dy_70 E u
  unfold fX1_tryNight_J114_1
  rw [so_bind]
  refine so_mono (c_goDay G C hu.1 (by show u.1 70 < _; omega) W things stack) ?_
  rintro o ⟨w1, w2, w3, w4, w5, w6⟩
  have N2 : NS (dy E u) 2 (va_up owed 2 o.1) (va_up now 2 o.2.2.2.2.1) (va_up ob 2 o.2.2.2.2.2.2.2.2.2.2) (va_up snow 2 o.2.2.2.2.2.1) (va_up path 2 o.2.2.2.2.2.2.1) (va_up debt 2 o.2.2.2.2.2.2.2.2.2.1) := by
    unfold NS
    rw [va_up_self, va_up_self, va_up_self, va_up_self, va_up_self, va_up_self]
    exact ⟨w1, w5, w6⟩
  have kp : Kp 1 owed now ob snow path debt (va_up owed 2 o.1) (va_up now 2 o.2.2.2.2.1) (va_up ob 2 o.2.2.2.2.2.2.2.2.2.2) (va_up snow 2 o.2.2.2.2.2.1) (va_up path 2 o.2.2.2.2.2.2.1) (va_up debt 2 o.2.2.2.2.2.2.2.2.2.1) := Kp.up (by omega) _ _ _ _ _ _
  have co := c_cost s0 s1 N2.1 N2.2.2
  have eu : (1 : Int32).toNatClampNeg = p.length := by rw [hp]; rfl
  have cu := hc.upd s
  have es : iI s + 1 = iI (s + 1) := by rw [li_1, iI_add]
  rw [so_gd (by rfl), co, Option.bind_some, eu]
  have cj : ∀ j, j < 1 → upd chosen p.length (iI s) j = chosen j := fun j hj => upd_o _ _ (by omega)
  by_cases q : b.1 ≤ cst hs (dy E u)
  · rw [if_pos ((iI_le (by omega) (by omega) (by omega) (by omega)).2 q), es]
    have e := bM_ge G k (dy E u) (p ++ [s]) b (h := h) q
    rw [e] at hrc
    exact hrc (iI b.1, va_up owed 2 o.1, va_up slides 2 o.2.1, va_up struck 2 o.2.2.1, va_up slid 2 o.2.2.2.1, va_up ob 2 o.2.2.2.2.2.2.2.2.2.2, bestRow, upd chosen p.length (iI s), va_up now 2 o.2.2.2.2.1, va_up snow 2 o.2.2.2.2.2.1, va_up path 2 o.2.2.2.2.2.2.1, va_up debt 2 o.2.2.2.2.2.2.2.2.2.1, o.2.2.2.2.2.2.2.1, o.2.2.2.2.2.2.2.2.1) ⟨rfl, hr, kp, cj⟩
  · rw [if_neg (fun z => q ((iI_le (by omega) (by omega) (by omega) (by omega)).1 z)), es, so_bind]
    have r := hG (dy E u) (p ++ [s]) b (va_up owed 2 o.1) (va_up slides 2 o.2.1) (va_up struck 2 o.2.2.1) (va_up slid 2 o.2.2.2.1) (va_up ob 2 o.2.2.2.2.2.2.2.2.2.2) bestRow (upd chosen p.length (iI s)) (va_up now 2 o.2.2.2.2.1) (va_up snow 2 o.2.2.2.2.2.1) (va_up path 2 o.2.2.2.2.2.2.1) (va_up debt 2 o.2.2.2.2.2.2.2.2.2.1) o.2.2.2.2.2.2.2.1 o.2.2.2.2.2.2.2.2.1 ⟨wa_dy G hu.1, zb_dy G hu.2⟩ (by rw [cd7]; omega) (by rw [List.length_append, hp]; rfl) cu hr (by omega) (by omega) b1 N2
    refine so_mono r ?_
    rintro v ⟨v1, v2, v3, v4⟩
    exact hrc v ⟨v1, v2, kp.trans (v3.le (by omega)), fun j hj => (v4 j (by omega)).trans (cj j hj)⟩
theorem c_L61_1 {E : EN} (G : EnG E) {cy ho le : Int32} {hold below inches code : Nat → Int32} (C : EnC E ho cy le hold below inches code) {h hs n : Int} (h1 : 1 ≤ h) (h2 : h ≤ 99) (s0 : -1 ≤ hs) (s1 : hs < 7) {k : Nat} {g : TG} (hG : SN E h hs n cy ho le inches hold below code g 2 k) {t : WS} {p : List Int} (ht : GT E t) (t7 : t.1 70 + 1 + k < 2147483648) (hp : p.length = 1) (c0 : 0 ≤ cst hs t) (c1 : cst hs t ≤ 1000000) :
    ∀ (m : Nat) (s : Int) (f : Nat) (b : BE) (owed slides struck slid : Nat → Int32) (ob : Nat → Nat → Int32) (bestRow chosen now : Nat → Int32) (snow path debt : Nat → Nat → Int32) (things stack : Nat → Int32), 0 ≤ s → s + m = 15 → m < f → Re chosen p → Re bestRow b.2 → 0 ≤ b.1 → b.1 ≤ 1000000 → NS t 1 owed now ob snow path debt →
      So (fX1_tryNight_L61_1 g (iI hs) (iI n) (iI h) cy ho le inches hold below code f (iI s) (iI b.1) owed slides struck slid ob bestRow chosen now snow path debt things stack) (TR 1 (bF (fun s b => if cho hs t s then bM E h hs k (pst E h s t) (p ++ [s]) b else b) m s b) chosen owed now ob snow path debt) := by
  intro m
  induction m with
  | zero =>
    intro s f b owed slides struck slid ob bestRow chosen now snow path debt things stack a0 a1 hf hc hr b0 b1 N
    obtain ⟨f, rfl⟩ : ∃ g, f = g + 1 := ⟨f - 1, by omega⟩
    rw [fX1_tryNight_L61_1]
    simp (disch := omega) only [gd_t, so_some, so_bind, so_gd, so_none, Option.bind_some, iI_add, iI_sub, iI_mul, iI_neg, iI_clamp, iI_nat, vin_i, iI_le, iI_lt, iI_eq, mn_i, mx_i, if_true, if_false, if_pos, if_neg, li_0, li_1, li_2, li_3, li_4, li_5, li_6, li_7, li_8, li_9, li_10, li_11, li_12, li_14, li_15, li_16, li_20, li_21, li_24, li_28, li_30, li_31, li_40, li_41, li_42, li_43, li_44, li_45, li_47, li_48, li_49, li_57, li_59, li_60, li_61, li_62, li_63, li_70, li_71, li_76, li_80, li_96, li_97, li_98, li_99, li_100, li_101, li_102, li_103, li_104, li_105, li_106, li_107, li_108, li_109, li_110, li_111, li_112, li_113, li_114, li_115, li_116, li_117, li_118, li_119, li_120, li_128, li_142, li_255, li_320, li_781, li_852, li_999, li_1000, li_2000, li_3000, li_9999, li_12345, li_65536, li_1000000, li_252645135, li_858993459, li_1103515245, li_1431655765]
    exact ⟨rfl, hr, Kp.rfl, fun _ _ => rfl⟩
  | succ m ih =>
    intro s f b owed slides struck slid ob bestRow chosen now snow path debt things stack a0 a1 hf hc hr b0 b1 N
    obtain ⟨f, rfl⟩ : ∃ g, f = g + 1 := ⟨f - 1, by omega⟩
    have sa := ht.1.1 s a0 (by omega)
    rw [bF]
    -- what follows a choice
    have fin : ∀ (b' : BE) (chosen' owed' now' : Nat → Int32) (ob' snow' path' debt' : Nat → Nat → Int32) (o : TN), 0 ≤ b'.1 → b'.1 ≤ 1000000 → Kp 1 owed now ob snow path debt owed' now' ob' snow' path' debt' → (∀ j, j < 1 → chosen' j = chosen j) → TR 1 b' chosen' owed' now' ob' snow' path' debt' o →
        So (fX1_tryNight_L61_1 g (iI hs) (iI n) (iI h) cy ho le inches hold below code f (iI (s + 1)) o.1 o.2.1 o.2.2.1 o.2.2.2.1 o.2.2.2.2.1 o.2.2.2.2.2.1 o.2.2.2.2.2.2.1 o.2.2.2.2.2.2.2.1 o.2.2.2.2.2.2.2.2.1 o.2.2.2.2.2.2.2.2.2.1 o.2.2.2.2.2.2.2.2.2.2.1 o.2.2.2.2.2.2.2.2.2.2.2.1 o.2.2.2.2.2.2.2.2.2.2.2.2.1 o.2.2.2.2.2.2.2.2.2.2.2.2.2) (TR 1 (bF (fun s b => if cho hs t s then bM E h hs k (pst E h s t) (p ++ [s]) b else b) m (s + 1) b') chosen owed now ob snow path debt) := by
      intro b' chosen' owed' now' ob' snow' path' debt' o b0' b1' kp cp ⟨o1, o2, o3, o4⟩
      rw [o1]
      have kk := kp.trans o3
      have hc2 : Re o.2.2.2.2.2.2.2.1 p := fun j x hx => by
        have hj : j < 1 := by
          by_cases w : j < 1
          · exact w
          · rw [List.getElem?_eq_none (by omega)] at hx
            cases hx
        rw [o4 j hj, cp j hj]
        exact hc j x hx
      refine so_mono (ih (s + 1) f b' _ _ _ _ _ _ _ _ _ _ _ _ _ (by omega) (by omega) (by omega) hc2 o2 b0' b1' (N.kp (Nat.le_refl _) kk)) ?_
      rintro v ⟨v1, v2, v3, v4⟩
      exact ⟨v1, v2, kk.trans v3, fun j hj => (v4 j hj).trans ((o4 j hj).trans (cp j hj))⟩
    have go : cho hs t s → So (fX1_tryNight_J88_1 (fX1_tryNight_L61_1 g (iI hs) (iI n) (iI h) cy ho le inches hold below code f) g (iI hs) (iI n) (iI h) cy ho le inches hold below code (iI s) (iI b.1) owed slides struck slid ob bestRow chosen now snow path debt things stack) (TR 1 (bF (fun s b => if cho hs t s then bM E h hs k (pst E h s t) (p ++ [s]) b else b) m (s + 1) (bM E h hs k (pst E h s t) (p ++ [s]) b)) chosen owed now ob snow path debt) := by
      intro hch
      have gs := swp_ok G h1 ht a0 (by omega) hch
      have cs := cst_swp hs h s t
      have bl := bM_le (E := E) (h := h) (hs := hs) k (pst E h s t) (p ++ [s]) b
      have bn := bM_nn G (h := h) (hs := hs) k (pst E h s t) (p ++ [s]) b (by have := cst_pst G hs h s t; omega) b0
      unfold fX1_tryNight_J88_1
      rw [so_bind]
      refine so_mono (c_follow N _ _ _ _ _ _) ?_
      rintro o ⟨w1, w2, w3⟩
      by_cases q : s = 14
      · have e : swp h s t = t := by unfold swp; rw [if_pos q]
        rw [if_pos (by rw [li_14]; exact (iI_le (by omega) (by omega) (by omega) (by omega)).2 (by omega))]
        refine c_J114_1 G C s0 s1 hG (u := swp h s t) (p := p) (b := b) (s := s) gs.1 (by rw [gs.2.1]; omega) hp hc hr (by omega) (by omega) b0 b1 ?_ things stack ?_
        · rw [e]
          unfold NS
          rw [va_up_self, va_up_self, va_up_self, va_up_self, va_up_self, va_up_self]
          exact ⟨w1, w2, w3⟩
        · intro v hv
          exact fin _ _ _ _ _ _ _ _ v bn (by omega) (Kp.up (by omega) _ _ _ _ _ _) (fun _ _ => rfl) hv
      · have e : swp h s t = (swA t.1 s (min h (t.1 s)), t.2) := by unfold swp; rw [if_neg q]
        rw [if_neg (by rw [li_14]; exact fun z => absurd ((iI_le (by omega) (by omega) (by omega) (by omega)).1 z) (by omega)), va_up_self, so_bind]
        refine so_mono (c_shift ht.1 w2.2.1 a0 (by omega) (by omega) (by omega)) ?_
        rintro o2 ⟨-, w4⟩
        refine c_J114_1 G C s0 s1 hG (u := swp h s t) (p := p) (b := b) (s := s) gs.1 (by rw [gs.2.1]; omega) hp hc hr (by omega) (by omega) b0 b1 ?_ things stack ?_
        · rw [e]
          unfold NS
          rw [va_up_self, va_up_self, va_up_self, va_up_self, va_up_self, va_up_self]
          refine ⟨w1, ⟨?_, w4, ?_, ?_⟩, w3⟩
          · rw [w2.1]
            show iI (t.1 70) = iI (swA t.1 s (min h (t.1 s)) 70)
            rw [sw_hi a0 (by omega) (by omega)]
          · exact w2.2.2.1.congr (fun x x0 x1 => (sw_hi a0 (by omega) (by omega)).symm)
          · exact w2.2.2.2.congr (fun x x0 x1 => (sw_hi a0 (by omega) (by omega)).symm)
        · intro v hv
          exact fin _ _ _ _ _ _ _ _ v bn (by omega) (Kp.up2 (by omega) _ _ _ _ _ _ _) (fun _ _ => rfl) hv
    rw [fX1_tryNight_L61_1]
    by_cases q : s = 14
    · have hch : cho hs t s := Or.inl q
      have := go hch
      rw [if_pos hch]
      simp (disch := omega) only [gd_t, so_some, so_bind, so_gd, so_none, Option.bind_some, iI_add, iI_sub, iI_mul, iI_neg, iI_clamp, iI_nat, vin_i, iI_le, iI_lt, iI_eq, mn_i, mx_i, if_true, if_false, if_pos, if_neg, li_0, li_1, li_2, li_3, li_4, li_5, li_6, li_7, li_8, li_9, li_10, li_11, li_12, li_14, li_15, li_16, li_20, li_21, li_24, li_28, li_30, li_31, li_40, li_41, li_42, li_43, li_44, li_45, li_47, li_48, li_49, li_57, li_59, li_60, li_61, li_62, li_63, li_70, li_71, li_76, li_80, li_96, li_97, li_98, li_99, li_100, li_101, li_102, li_103, li_104, li_105, li_106, li_107, li_108, li_109, li_110, li_111, li_112, li_113, li_114, li_115, li_116, li_117, li_118, li_119, li_120, li_128, li_142, li_255, li_320, li_781, li_852, li_999, li_1000, li_2000, li_3000, li_9999, li_12345, li_65536, li_1000000, li_252645135, li_858993459, li_1103515245, li_1431655765]
      exact this
    · have ns := N.2.1.2.1
      have d2 : iI s / iI 2 = iI (s / 2) := iI_div2 (by omega) (by omega)
      have noc : ¬ cho hs t s → So (fX1_tryNight_L61_1 g (iI hs) (iI n) (iI h) cy ho le inches hold below code f (iI (s + 1)) (iI b.1) owed slides struck slid ob bestRow chosen now snow path debt things stack) (TR 1 (bF (fun s b => if cho hs t s then bM E h hs k (pst E h s t) (p ++ [s]) b else b) m (s + 1) b) chosen owed now ob snow path debt) := fun _ => ih (s + 1) f b owed slides struck slid ob bestRow chosen now snow path debt things stack (by omega) (by omega) (by omega) hc hr b0 b1 N
      by_cases q0 : t.1 s ≤ 0
      · have hch : ¬ cho hs t s := by
          rintro (z | ⟨z, -⟩)
          · exact q z
          · omega
        have := noc hch
        rw [if_neg hch]
        unfold fX1_isChoice
        simp (disch := omega) only [gd_t, so_some, so_bind, so_gd, so_none, Option.bind_some, iI_add, iI_sub, iI_mul, iI_neg, iI_clamp, iI_nat, vin_i, iI_le, iI_lt, iI_eq, mn_i, mx_i, if_true, if_false, if_pos, if_neg, li_0, li_1, li_2, li_3, li_4, li_5, li_6, li_7, li_8, li_9, li_10, li_11, li_12, li_14, li_15, li_16, li_20, li_21, li_24, li_28, li_30, li_31, li_40, li_41, li_42, li_43, li_44, li_45, li_47, li_48, li_49, li_57, li_59, li_60, li_61, li_62, li_63, li_70, li_71, li_76, li_80, li_96, li_97, li_98, li_99, li_100, li_101, li_102, li_103, li_104, li_105, li_106, li_107, li_108, li_109, li_110, li_111, li_112, li_113, li_114, li_115, li_116, li_117, li_118, li_119, li_120, li_128, li_142, li_255, li_320, li_781, li_852, li_999, li_1000, li_2000, li_3000, li_9999, li_12345, li_65536, li_1000000, li_252645135, li_858993459, li_1103515245, li_1431655765, ns.at]
        exact this
      · by_cases q1 : hs = -1
        · have hch : cho hs t s := Or.inr ⟨by omega, Or.inl q1⟩
          have := go hch
          rw [if_pos hch]
          unfold fX1_isChoice
          simp (disch := omega) only [gd_t, so_some, so_bind, so_gd, so_none, Option.bind_some, iI_add, iI_sub, iI_mul, iI_neg, iI_clamp, iI_nat, vin_i, iI_le, iI_lt, iI_eq, mn_i, mx_i, if_true, if_false, if_pos, if_neg, li_0, li_1, li_2, li_3, li_4, li_5, li_6, li_7, li_8, li_9, li_10, li_11, li_12, li_14, li_15, li_16, li_20, li_21, li_24, li_28, li_30, li_31, li_40, li_41, li_42, li_43, li_44, li_45, li_47, li_48, li_49, li_57, li_59, li_60, li_61, li_62, li_63, li_70, li_71, li_76, li_80, li_96, li_97, li_98, li_99, li_100, li_101, li_102, li_103, li_104, li_105, li_106, li_107, li_108, li_109, li_110, li_111, li_112, li_113, li_114, li_115, li_116, li_117, li_118, li_119, li_120, li_128, li_142, li_255, li_320, li_781, li_852, li_999, li_1000, li_2000, li_3000, li_9999, li_12345, li_65536, li_1000000, li_252645135, li_858993459, li_1103515245, li_1431655765, ns.at]
          exact this
        · by_cases q2 : s / 2 = hs
          · have hch : cho hs t s := Or.inr ⟨by omega, Or.inr q2⟩
            have := go hch
            rw [if_pos hch]
            unfold fX1_isChoice
            simp (disch := omega) only [gd_t, so_some, so_bind, so_gd, so_none, Option.bind_some, iI_add, iI_sub, iI_mul, iI_neg, iI_clamp, iI_nat, vin_i, iI_le, iI_lt, iI_eq, mn_i, mx_i, if_true, if_false, if_pos, if_neg, li_0, li_1, li_2, li_3, li_4, li_5, li_6, li_7, li_8, li_9, li_10, li_11, li_12, li_14, li_15, li_16, li_20, li_21, li_24, li_28, li_30, li_31, li_40, li_41, li_42, li_43, li_44, li_45, li_47, li_48, li_49, li_57, li_59, li_60, li_61, li_62, li_63, li_70, li_71, li_76, li_80, li_96, li_97, li_98, li_99, li_100, li_101, li_102, li_103, li_104, li_105, li_106, li_107, li_108, li_109, li_110, li_111, li_112, li_113, li_114, li_115, li_116, li_117, li_118, li_119, li_120, li_128, li_142, li_255, li_320, li_781, li_852, li_999, li_1000, li_2000, li_3000, li_9999, li_12345, li_65536, li_1000000, li_252645135, li_858993459, li_1103515245, li_1431655765, ns.at, d2]
            exact this
          · have hch : ¬ cho hs t s := by
              rintro (z | ⟨-, z | z⟩)
              · exact q z
              · exact q1 z
              · exact q2 z
            have := noc hch
            rw [if_neg hch]
            unfold fX1_isChoice
            simp (disch := omega) only [gd_t, so_some, so_bind, so_gd, so_none, Option.bind_some, iI_add, iI_sub, iI_mul, iI_neg, iI_clamp, iI_nat, vin_i, iI_le, iI_lt, iI_eq, mn_i, mx_i, if_true, if_false, if_pos, if_neg, li_0, li_1, li_2, li_3, li_4, li_5, li_6, li_7, li_8, li_9, li_10, li_11, li_12, li_14, li_15, li_16, li_20, li_21, li_24, li_28, li_30, li_31, li_40, li_41, li_42, li_43, li_44, li_45, li_47, li_48, li_49, li_57, li_59, li_60, li_61, li_62, li_63, li_70, li_71, li_76, li_80, li_96, li_97, li_98, li_99, li_100, li_101, li_102, li_103, li_104, li_105, li_106, li_107, li_108, li_109, li_110, li_111, li_112, li_113, li_114, li_115, li_116, li_117, li_118, li_119, li_120, li_128, li_142, li_255, li_320, li_781, li_852, li_999, li_1000, li_2000, li_3000, li_9999, li_12345, li_65536, li_1000000, li_252645135, li_858993459, li_1103515245, li_1431655765, ns.at, d2]
            exact this
theorem c_J114_2 {E : EN} (G : EnG E) {cy ho le : Int32} {hold below inches code : Nat → Int32} (C : EnC E ho cy le hold below inches code) {h hs n : Int} (s0 : -1 ≤ hs) (s1 : hs < 7) {k : Nat} {g : TG} (hG : SN E h hs n cy ho le inches hold below code g 3 k) {rc : TC} {Q : TN → Prop} {u : WS} {p : List Int} {b : BE} {s : Int} (hu : GT E u) (u7 : u.1 70 + 1 + k < 2147483648) (hp : p.length = 2) {chosen bestRow : Nat → Int32} (hc : Re chosen p) (hr : Re bestRow b.2) (c0 : 0 ≤ cst hs u) (c1 : cst hs u ≤ 1000000) (b0 : 0 ≤ b.1) (b1 : b.1 ≤ 1000000)
    {owed slides struck slid now : Nat → Int32} {ob snow path debt : Nat → Nat → Int32} (N : NS u 3 owed now ob snow path debt) (things stack : Nat → Int32)
    (hrc : ∀ o : TN, TR 2 (bM E h hs k (dy E u) (p ++ [s]) b) chosen owed now ob snow path debt o → So (rc (iI (s + 1)) o.1 o.2.1 o.2.2.1 o.2.2.2.1 o.2.2.2.2.1 o.2.2.2.2.2.1 o.2.2.2.2.2.2.1 o.2.2.2.2.2.2.2.1 o.2.2.2.2.2.2.2.2.1 o.2.2.2.2.2.2.2.2.2.1 o.2.2.2.2.2.2.2.2.2.2.1 o.2.2.2.2.2.2.2.2.2.2.2.1 o.2.2.2.2.2.2.2.2.2.2.2.2.1 o.2.2.2.2.2.2.2.2.2.2.2.2.2) Q) :
    So (fX1_tryNight_J114_2 rc g (iI hs) (iI n) (iI h) cy ho le inches hold below code (iI s) (iI b.1) owed slides struck slid ob bestRow chosen now snow path debt things stack) Q := by
  obtain ⟨S, hS, S0, S1⟩ := iI_of (slides 3)
  have W : Wk ((u, S, struck 3, slid 3) : FW) (owed 3) (slides 3) (struck 3) (slid 3) (now 3) (snow 3) (path 3) (debt 3) (ob 3) := ⟨N.1, hS, rfl, rfl, N.2.1, N.2.2⟩
  have cd := cst_dy G hs u
  have cd7 := dy_70 E u
  unfold fX1_tryNight_J114_2
  rw [so_bind]
  refine so_mono (c_goDay G C hu.1 (by show u.1 70 < _; omega) W things stack) ?_
  rintro o ⟨w1, w2, w3, w4, w5, w6⟩
  have N2 : NS (dy E u) 3 (va_up owed 3 o.1) (va_up now 3 o.2.2.2.2.1) (va_up ob 3 o.2.2.2.2.2.2.2.2.2.2) (va_up snow 3 o.2.2.2.2.2.1) (va_up path 3 o.2.2.2.2.2.2.1) (va_up debt 3 o.2.2.2.2.2.2.2.2.2.1) := by
    unfold NS
    rw [va_up_self, va_up_self, va_up_self, va_up_self, va_up_self, va_up_self]
    exact ⟨w1, w5, w6⟩
  have kp : Kp 2 owed now ob snow path debt (va_up owed 3 o.1) (va_up now 3 o.2.2.2.2.1) (va_up ob 3 o.2.2.2.2.2.2.2.2.2.2) (va_up snow 3 o.2.2.2.2.2.1) (va_up path 3 o.2.2.2.2.2.2.1) (va_up debt 3 o.2.2.2.2.2.2.2.2.2.1) := Kp.up (by omega) _ _ _ _ _ _
  have co := c_cost s0 s1 N2.1 N2.2.2
  have eu : (2 : Int32).toNatClampNeg = p.length := by rw [hp]; rfl
  have cu := hc.upd s
  have es : iI s + 1 = iI (s + 1) := by rw [li_1, iI_add]
  rw [so_gd (by rfl), co, Option.bind_some, eu]
  have cj : ∀ j, j < 2 → upd chosen p.length (iI s) j = chosen j := fun j hj => upd_o _ _ (by omega)
  by_cases q : b.1 ≤ cst hs (dy E u)
  · rw [if_pos ((iI_le (by omega) (by omega) (by omega) (by omega)).2 q), es]
    have e := bM_ge G k (dy E u) (p ++ [s]) b (h := h) q
    rw [e] at hrc
    exact hrc (iI b.1, va_up owed 3 o.1, va_up slides 3 o.2.1, va_up struck 3 o.2.2.1, va_up slid 3 o.2.2.2.1, va_up ob 3 o.2.2.2.2.2.2.2.2.2.2, bestRow, upd chosen p.length (iI s), va_up now 3 o.2.2.2.2.1, va_up snow 3 o.2.2.2.2.2.1, va_up path 3 o.2.2.2.2.2.2.1, va_up debt 3 o.2.2.2.2.2.2.2.2.2.1, o.2.2.2.2.2.2.2.1, o.2.2.2.2.2.2.2.2.1) ⟨rfl, hr, kp, cj⟩
  · rw [if_neg (fun z => q ((iI_le (by omega) (by omega) (by omega) (by omega)).1 z)), es, so_bind]
    have r := hG (dy E u) (p ++ [s]) b (va_up owed 3 o.1) (va_up slides 3 o.2.1) (va_up struck 3 o.2.2.1) (va_up slid 3 o.2.2.2.1) (va_up ob 3 o.2.2.2.2.2.2.2.2.2.2) bestRow (upd chosen p.length (iI s)) (va_up now 3 o.2.2.2.2.1) (va_up snow 3 o.2.2.2.2.2.1) (va_up path 3 o.2.2.2.2.2.2.1) (va_up debt 3 o.2.2.2.2.2.2.2.2.2.1) o.2.2.2.2.2.2.2.1 o.2.2.2.2.2.2.2.2.1 ⟨wa_dy G hu.1, zb_dy G hu.2⟩ (by rw [cd7]; omega) (by rw [List.length_append, hp]; rfl) cu hr (by omega) (by omega) b1 N2
    refine so_mono r ?_
    rintro v ⟨v1, v2, v3, v4⟩
    exact hrc v ⟨v1, v2, kp.trans (v3.le (by omega)), fun j hj => (v4 j (by omega)).trans (cj j hj)⟩
theorem c_L61_2 {E : EN} (G : EnG E) {cy ho le : Int32} {hold below inches code : Nat → Int32} (C : EnC E ho cy le hold below inches code) {h hs n : Int} (h1 : 1 ≤ h) (h2 : h ≤ 99) (s0 : -1 ≤ hs) (s1 : hs < 7) {k : Nat} {g : TG} (hG : SN E h hs n cy ho le inches hold below code g 3 k) {t : WS} {p : List Int} (ht : GT E t) (t7 : t.1 70 + 1 + k < 2147483648) (hp : p.length = 2) (c0 : 0 ≤ cst hs t) (c1 : cst hs t ≤ 1000000) :
    ∀ (m : Nat) (s : Int) (f : Nat) (b : BE) (owed slides struck slid : Nat → Int32) (ob : Nat → Nat → Int32) (bestRow chosen now : Nat → Int32) (snow path debt : Nat → Nat → Int32) (things stack : Nat → Int32), 0 ≤ s → s + m = 15 → m < f → Re chosen p → Re bestRow b.2 → 0 ≤ b.1 → b.1 ≤ 1000000 → NS t 2 owed now ob snow path debt →
      So (fX1_tryNight_L61_2 g (iI hs) (iI n) (iI h) cy ho le inches hold below code f (iI s) (iI b.1) owed slides struck slid ob bestRow chosen now snow path debt things stack) (TR 2 (bF (fun s b => if cho hs t s then bM E h hs k (pst E h s t) (p ++ [s]) b else b) m s b) chosen owed now ob snow path debt) := by
  intro m
  induction m with
  | zero =>
    intro s f b owed slides struck slid ob bestRow chosen now snow path debt things stack a0 a1 hf hc hr b0 b1 N
    obtain ⟨f, rfl⟩ : ∃ g, f = g + 1 := ⟨f - 1, by omega⟩
    rw [fX1_tryNight_L61_2]
    simp (disch := omega) only [gd_t, so_some, so_bind, so_gd, so_none, Option.bind_some, iI_add, iI_sub, iI_mul, iI_neg, iI_clamp, iI_nat, vin_i, iI_le, iI_lt, iI_eq, mn_i, mx_i, if_true, if_false, if_pos, if_neg, li_0, li_1, li_2, li_3, li_4, li_5, li_6, li_7, li_8, li_9, li_10, li_11, li_12, li_14, li_15, li_16, li_20, li_21, li_24, li_28, li_30, li_31, li_40, li_41, li_42, li_43, li_44, li_45, li_47, li_48, li_49, li_57, li_59, li_60, li_61, li_62, li_63, li_70, li_71, li_76, li_80, li_96, li_97, li_98, li_99, li_100, li_101, li_102, li_103, li_104, li_105, li_106, li_107, li_108, li_109, li_110, li_111, li_112, li_113, li_114, li_115, li_116, li_117, li_118, li_119, li_120, li_128, li_142, li_255, li_320, li_781, li_852, li_999, li_1000, li_2000, li_3000, li_9999, li_12345, li_65536, li_1000000, li_252645135, li_858993459, li_1103515245, li_1431655765]
    exact ⟨rfl, hr, Kp.rfl, fun _ _ => rfl⟩
  | succ m ih =>
    intro s f b owed slides struck slid ob bestRow chosen now snow path debt things stack a0 a1 hf hc hr b0 b1 N
    obtain ⟨f, rfl⟩ : ∃ g, f = g + 1 := ⟨f - 1, by omega⟩
    have sa := ht.1.1 s a0 (by omega)
    rw [bF]
    -- what follows a choice
    have fin : ∀ (b' : BE) (chosen' owed' now' : Nat → Int32) (ob' snow' path' debt' : Nat → Nat → Int32) (o : TN), 0 ≤ b'.1 → b'.1 ≤ 1000000 → Kp 2 owed now ob snow path debt owed' now' ob' snow' path' debt' → (∀ j, j < 2 → chosen' j = chosen j) → TR 2 b' chosen' owed' now' ob' snow' path' debt' o →
        So (fX1_tryNight_L61_2 g (iI hs) (iI n) (iI h) cy ho le inches hold below code f (iI (s + 1)) o.1 o.2.1 o.2.2.1 o.2.2.2.1 o.2.2.2.2.1 o.2.2.2.2.2.1 o.2.2.2.2.2.2.1 o.2.2.2.2.2.2.2.1 o.2.2.2.2.2.2.2.2.1 o.2.2.2.2.2.2.2.2.2.1 o.2.2.2.2.2.2.2.2.2.2.1 o.2.2.2.2.2.2.2.2.2.2.2.1 o.2.2.2.2.2.2.2.2.2.2.2.2.1 o.2.2.2.2.2.2.2.2.2.2.2.2.2) (TR 2 (bF (fun s b => if cho hs t s then bM E h hs k (pst E h s t) (p ++ [s]) b else b) m (s + 1) b') chosen owed now ob snow path debt) := by
      intro b' chosen' owed' now' ob' snow' path' debt' o b0' b1' kp cp ⟨o1, o2, o3, o4⟩
      rw [o1]
      have kk := kp.trans o3
      have hc2 : Re o.2.2.2.2.2.2.2.1 p := fun j x hx => by
        have hj : j < 2 := by
          by_cases w : j < 2
          · exact w
          · rw [List.getElem?_eq_none (by omega)] at hx
            cases hx
        rw [o4 j hj, cp j hj]
        exact hc j x hx
      refine so_mono (ih (s + 1) f b' _ _ _ _ _ _ _ _ _ _ _ _ _ (by omega) (by omega) (by omega) hc2 o2 b0' b1' (N.kp (Nat.le_refl _) kk)) ?_
      rintro v ⟨v1, v2, v3, v4⟩
      exact ⟨v1, v2, kk.trans v3, fun j hj => (v4 j hj).trans ((o4 j hj).trans (cp j hj))⟩
    have go : cho hs t s → So (fX1_tryNight_J88_2 (fX1_tryNight_L61_2 g (iI hs) (iI n) (iI h) cy ho le inches hold below code f) g (iI hs) (iI n) (iI h) cy ho le inches hold below code (iI s) (iI b.1) owed slides struck slid ob bestRow chosen now snow path debt things stack) (TR 2 (bF (fun s b => if cho hs t s then bM E h hs k (pst E h s t) (p ++ [s]) b else b) m (s + 1) (bM E h hs k (pst E h s t) (p ++ [s]) b)) chosen owed now ob snow path debt) := by
      intro hch
      have gs := swp_ok G h1 ht a0 (by omega) hch
      have cs := cst_swp hs h s t
      have bl := bM_le (E := E) (h := h) (hs := hs) k (pst E h s t) (p ++ [s]) b
      have bn := bM_nn G (h := h) (hs := hs) k (pst E h s t) (p ++ [s]) b (by have := cst_pst G hs h s t; omega) b0
      unfold fX1_tryNight_J88_2
      rw [so_bind]
      refine so_mono (c_follow N _ _ _ _ _ _) ?_
      rintro o ⟨w1, w2, w3⟩
      by_cases q : s = 14
      · have e : swp h s t = t := by unfold swp; rw [if_pos q]
        rw [if_pos (by rw [li_14]; exact (iI_le (by omega) (by omega) (by omega) (by omega)).2 (by omega))]
        refine c_J114_2 G C s0 s1 hG (u := swp h s t) (p := p) (b := b) (s := s) gs.1 (by rw [gs.2.1]; omega) hp hc hr (by omega) (by omega) b0 b1 ?_ things stack ?_
        · rw [e]
          unfold NS
          rw [va_up_self, va_up_self, va_up_self, va_up_self, va_up_self, va_up_self]
          exact ⟨w1, w2, w3⟩
        · intro v hv
          exact fin _ _ _ _ _ _ _ _ v bn (by omega) (Kp.up (by omega) _ _ _ _ _ _) (fun _ _ => rfl) hv
      · have e : swp h s t = (swA t.1 s (min h (t.1 s)), t.2) := by unfold swp; rw [if_neg q]
        rw [if_neg (by rw [li_14]; exact fun z => absurd ((iI_le (by omega) (by omega) (by omega) (by omega)).1 z) (by omega)), va_up_self, so_bind]
        refine so_mono (c_shift ht.1 w2.2.1 a0 (by omega) (by omega) (by omega)) ?_
        rintro o2 ⟨-, w4⟩
        refine c_J114_2 G C s0 s1 hG (u := swp h s t) (p := p) (b := b) (s := s) gs.1 (by rw [gs.2.1]; omega) hp hc hr (by omega) (by omega) b0 b1 ?_ things stack ?_
        · rw [e]
          unfold NS
          rw [va_up_self, va_up_self, va_up_self, va_up_self, va_up_self, va_up_self]
          refine ⟨w1, ⟨?_, w4, ?_, ?_⟩, w3⟩
          · rw [w2.1]
            show iI (t.1 70) = iI (swA t.1 s (min h (t.1 s)) 70)
            rw [sw_hi a0 (by omega) (by omega)]
          · exact w2.2.2.1.congr (fun x x0 x1 => (sw_hi a0 (by omega) (by omega)).symm)
          · exact w2.2.2.2.congr (fun x x0 x1 => (sw_hi a0 (by omega) (by omega)).symm)
        · intro v hv
          exact fin _ _ _ _ _ _ _ _ v bn (by omega) (Kp.up2 (by omega) _ _ _ _ _ _ _) (fun _ _ => rfl) hv
    rw [fX1_tryNight_L61_2]
    by_cases q : s = 14
    · have hch : cho hs t s := Or.inl q
      have := go hch
      rw [if_pos hch]
      simp (disch := omega) only [gd_t, so_some, so_bind, so_gd, so_none, Option.bind_some, iI_add, iI_sub, iI_mul, iI_neg, iI_clamp, iI_nat, vin_i, iI_le, iI_lt, iI_eq, mn_i, mx_i, if_true, if_false, if_pos, if_neg, li_0, li_1, li_2, li_3, li_4, li_5, li_6, li_7, li_8, li_9, li_10, li_11, li_12, li_14, li_15, li_16, li_20, li_21, li_24, li_28, li_30, li_31, li_40, li_41, li_42, li_43, li_44, li_45, li_47, li_48, li_49, li_57, li_59, li_60, li_61, li_62, li_63, li_70, li_71, li_76, li_80, li_96, li_97, li_98, li_99, li_100, li_101, li_102, li_103, li_104, li_105, li_106, li_107, li_108, li_109, li_110, li_111, li_112, li_113, li_114, li_115, li_116, li_117, li_118, li_119, li_120, li_128, li_142, li_255, li_320, li_781, li_852, li_999, li_1000, li_2000, li_3000, li_9999, li_12345, li_65536, li_1000000, li_252645135, li_858993459, li_1103515245, li_1431655765]
      exact this
    · have ns := N.2.1.2.1
      have d2 : iI s / iI 2 = iI (s / 2) := iI_div2 (by omega) (by omega)
      have noc : ¬ cho hs t s → So (fX1_tryNight_L61_2 g (iI hs) (iI n) (iI h) cy ho le inches hold below code f (iI (s + 1)) (iI b.1) owed slides struck slid ob bestRow chosen now snow path debt things stack) (TR 2 (bF (fun s b => if cho hs t s then bM E h hs k (pst E h s t) (p ++ [s]) b else b) m (s + 1) b) chosen owed now ob snow path debt) := fun _ => ih (s + 1) f b owed slides struck slid ob bestRow chosen now snow path debt things stack (by omega) (by omega) (by omega) hc hr b0 b1 N
      by_cases q0 : t.1 s ≤ 0
      · have hch : ¬ cho hs t s := by
          rintro (z | ⟨z, -⟩)
          · exact q z
          · omega
        have := noc hch
        rw [if_neg hch]
        unfold fX1_isChoice
        simp (disch := omega) only [gd_t, so_some, so_bind, so_gd, so_none, Option.bind_some, iI_add, iI_sub, iI_mul, iI_neg, iI_clamp, iI_nat, vin_i, iI_le, iI_lt, iI_eq, mn_i, mx_i, if_true, if_false, if_pos, if_neg, li_0, li_1, li_2, li_3, li_4, li_5, li_6, li_7, li_8, li_9, li_10, li_11, li_12, li_14, li_15, li_16, li_20, li_21, li_24, li_28, li_30, li_31, li_40, li_41, li_42, li_43, li_44, li_45, li_47, li_48, li_49, li_57, li_59, li_60, li_61, li_62, li_63, li_70, li_71, li_76, li_80, li_96, li_97, li_98, li_99, li_100, li_101, li_102, li_103, li_104, li_105, li_106, li_107, li_108, li_109, li_110, li_111, li_112, li_113, li_114, li_115, li_116, li_117, li_118, li_119, li_120, li_128, li_142, li_255, li_320, li_781, li_852, li_999, li_1000, li_2000, li_3000, li_9999, li_12345, li_65536, li_1000000, li_252645135, li_858993459, li_1103515245, li_1431655765, ns.at]
        exact this
      · by_cases q1 : hs = -1
        · have hch : cho hs t s := Or.inr ⟨by omega, Or.inl q1⟩
          have := go hch
          rw [if_pos hch]
          unfold fX1_isChoice
          simp (disch := omega) only [gd_t, so_some, so_bind, so_gd, so_none, Option.bind_some, iI_add, iI_sub, iI_mul, iI_neg, iI_clamp, iI_nat, vin_i, iI_le, iI_lt, iI_eq, mn_i, mx_i, if_true, if_false, if_pos, if_neg, li_0, li_1, li_2, li_3, li_4, li_5, li_6, li_7, li_8, li_9, li_10, li_11, li_12, li_14, li_15, li_16, li_20, li_21, li_24, li_28, li_30, li_31, li_40, li_41, li_42, li_43, li_44, li_45, li_47, li_48, li_49, li_57, li_59, li_60, li_61, li_62, li_63, li_70, li_71, li_76, li_80, li_96, li_97, li_98, li_99, li_100, li_101, li_102, li_103, li_104, li_105, li_106, li_107, li_108, li_109, li_110, li_111, li_112, li_113, li_114, li_115, li_116, li_117, li_118, li_119, li_120, li_128, li_142, li_255, li_320, li_781, li_852, li_999, li_1000, li_2000, li_3000, li_9999, li_12345, li_65536, li_1000000, li_252645135, li_858993459, li_1103515245, li_1431655765, ns.at]
          exact this
        · by_cases q2 : s / 2 = hs
          · have hch : cho hs t s := Or.inr ⟨by omega, Or.inr q2⟩
            have := go hch
            rw [if_pos hch]
            unfold fX1_isChoice
            simp (disch := omega) only [gd_t, so_some, so_bind, so_gd, so_none, Option.bind_some, iI_add, iI_sub, iI_mul, iI_neg, iI_clamp, iI_nat, vin_i, iI_le, iI_lt, iI_eq, mn_i, mx_i, if_true, if_false, if_pos, if_neg, li_0, li_1, li_2, li_3, li_4, li_5, li_6, li_7, li_8, li_9, li_10, li_11, li_12, li_14, li_15, li_16, li_20, li_21, li_24, li_28, li_30, li_31, li_40, li_41, li_42, li_43, li_44, li_45, li_47, li_48, li_49, li_57, li_59, li_60, li_61, li_62, li_63, li_70, li_71, li_76, li_80, li_96, li_97, li_98, li_99, li_100, li_101, li_102, li_103, li_104, li_105, li_106, li_107, li_108, li_109, li_110, li_111, li_112, li_113, li_114, li_115, li_116, li_117, li_118, li_119, li_120, li_128, li_142, li_255, li_320, li_781, li_852, li_999, li_1000, li_2000, li_3000, li_9999, li_12345, li_65536, li_1000000, li_252645135, li_858993459, li_1103515245, li_1431655765, ns.at, d2]
            exact this
          · have hch : ¬ cho hs t s := by
              rintro (z | ⟨-, z | z⟩)
              · exact q z
              · exact q1 z
              · exact q2 z
            have := noc hch
            rw [if_neg hch]
            unfold fX1_isChoice
            simp (disch := omega) only [gd_t, so_some, so_bind, so_gd, so_none, Option.bind_some, iI_add, iI_sub, iI_mul, iI_neg, iI_clamp, iI_nat, vin_i, iI_le, iI_lt, iI_eq, mn_i, mx_i, if_true, if_false, if_pos, if_neg, li_0, li_1, li_2, li_3, li_4, li_5, li_6, li_7, li_8, li_9, li_10, li_11, li_12, li_14, li_15, li_16, li_20, li_21, li_24, li_28, li_30, li_31, li_40, li_41, li_42, li_43, li_44, li_45, li_47, li_48, li_49, li_57, li_59, li_60, li_61, li_62, li_63, li_70, li_71, li_76, li_80, li_96, li_97, li_98, li_99, li_100, li_101, li_102, li_103, li_104, li_105, li_106, li_107, li_108, li_109, li_110, li_111, li_112, li_113, li_114, li_115, li_116, li_117, li_118, li_119, li_120, li_128, li_142, li_255, li_320, li_781, li_852, li_999, li_1000, li_2000, li_3000, li_9999, li_12345, li_65536, li_1000000, li_252645135, li_858993459, li_1103515245, li_1431655765, ns.at, d2]
            exact this
theorem c_leaf {E : EN} {cy ho le : Int32} {hold below inches code : Nat → Int32} {h hs : Int} (s0 : -1 ≤ hs) (s1 : hs < 7) {K : Nat} (K1 : 1 ≤ K) (K3 : K ≤ 3) (F : Nat) : SN E h hs K cy ho le inches hold below code (ftrn (F + 1)) K 0 := by
  intro t p b owed slides struck slid ob bestRow chosen now snow path debt things stack ht t7 hp hc hr c0 c1 b1 N
  have co := c_cost s0 s1 N.1 N.2.2
  show So (fX1_tryNight_B (ftrn F) (iI hs) (iI K) (iI h) (iI b.1) owed slides struck slid ob bestRow chosen now snow path debt cy ho le inches hold below things stack code (iI K)) _
  unfold fX1_tryNight_B
  rw [if_pos (Int32.le_refl _), bM, if_pos c1]
  have re : Re (cpy 3 chosen bestRow) p := fun j x hx => by
    have hj : j < p.length := by
      by_cases w : j < p.length
      · exact w
      · rw [List.getElem?_eq_none (by omega)] at hx
        cases hx
    rw [cpy_lt (by omega)]
    exact hc j x hx
  unfold fX1_tryNight_J13
  have e : K = 1 ∨ K = 2 ∨ K = 3 := by omega
  rcases e with rfl | rfl | rfl
  · rw [if_neg (by decide), if_pos (by rfl), co, Option.bind_some, so_some]
    exact ⟨rfl, re, Kp.rfl, fun _ _ => rfl⟩
  · rw [if_neg (by decide), if_neg (by decide), if_pos (by rfl), co, Option.bind_some, so_some]
    exact ⟨rfl, re, Kp.rfl, fun _ _ => rfl⟩
  · rw [if_neg (by decide), if_neg (by decide), if_neg (by decide), if_pos (by rfl), co, Option.bind_some, so_some]
    exact ⟨rfl, re, Kp.rfl, fun _ _ => rfl⟩
theorem c_node_0 {E : EN} (G : EnG E) {cy ho le : Int32} {hold below inches code : Nat → Int32} (C : EnC E ho cy le hold below inches code) {h hs n : Int} (h1 : 1 ≤ h) (h2 : h ≤ 99) (s0 : -1 ≤ hs) (s1 : hs < 7) (n1 : 0 < n) (n3 : n ≤ 3) {k F : Nat} (hk : k ≤ 3) (hG : SN E h hs n cy ho le inches hold below code (ftrn F) 1 k) : SN E h hs n cy ho le inches hold below code (ftrn (F + 1)) 0 (k + 1) := by
  intro t p b owed slides struck slid ob bestRow chosen now snow path debt things stack ht t7 hp hc hr c0 c1 b1 N
  have L := c_L61_0 G C h1 h2 s0 s1 hG (t := t) (p := p) ht (by omega) hp c0 (by omega) 15 0 FU b owed slides struck slid ob bestRow chosen now snow path debt things stack (by omega) (by omega) (show 15 < 4000 by omega) hc hr (by omega) b1 N
  show So (fX1_tryNight_B (ftrn F) (iI hs) (iI n) (iI h) (iI b.1) owed slides struck slid ob bestRow chosen now snow path debt cy ho le inches hold below things stack code (iI (0 : Nat))) _
  unfold fX1_tryNight_B
  rw [show (((0 : Nat) : Nat) : Int) = 0 from rfl, if_neg (fun z => absurd ((iI_le (by omega) (by omega) (by omega) (by omega)).1 z) (by omega)), if_pos (by decide), if_pos (by rfl), so_bind]
  refine so_mono L ?_
  intro o ho
  rw [so_some]
  exact ho
theorem c_node_1 {E : EN} (G : EnG E) {cy ho le : Int32} {hold below inches code : Nat → Int32} (C : EnC E ho cy le hold below inches code) {h hs n : Int} (h1 : 1 ≤ h) (h2 : h ≤ 99) (s0 : -1 ≤ hs) (s1 : hs < 7) (n1 : 1 < n) (n3 : n ≤ 3) {k F : Nat} (hk : k ≤ 3) (hG : SN E h hs n cy ho le inches hold below code (ftrn F) 2 k) : SN E h hs n cy ho le inches hold below code (ftrn (F + 1)) 1 (k + 1) := by
  intro t p b owed slides struck slid ob bestRow chosen now snow path debt things stack ht t7 hp hc hr c0 c1 b1 N
  have L := c_L61_1 G C h1 h2 s0 s1 hG (t := t) (p := p) ht (by omega) hp c0 (by omega) 15 0 FU b owed slides struck slid ob bestRow chosen now snow path debt things stack (by omega) (by omega) (show 15 < 4000 by omega) hc hr (by omega) b1 N
  show So (fX1_tryNight_B (ftrn F) (iI hs) (iI n) (iI h) (iI b.1) owed slides struck slid ob bestRow chosen now snow path debt cy ho le inches hold below things stack code (iI (1 : Nat))) _
  unfold fX1_tryNight_B
  rw [show (((1 : Nat) : Nat) : Int) = 1 from rfl, if_neg (fun z => absurd ((iI_le (by omega) (by omega) (by omega) (by omega)).1 z) (by omega)), if_pos (by decide), if_neg (by decide), if_pos (by rfl), so_bind]
  refine so_mono L ?_
  intro o ho
  rw [so_some]
  exact ho
theorem c_node_2 {E : EN} (G : EnG E) {cy ho le : Int32} {hold below inches code : Nat → Int32} (C : EnC E ho cy le hold below inches code) {h hs n : Int} (h1 : 1 ≤ h) (h2 : h ≤ 99) (s0 : -1 ≤ hs) (s1 : hs < 7) (n1 : 2 < n) (n3 : n ≤ 3) {k F : Nat} (hk : k ≤ 3) (hG : SN E h hs n cy ho le inches hold below code (ftrn F) 3 k) : SN E h hs n cy ho le inches hold below code (ftrn (F + 1)) 2 (k + 1) := by
  intro t p b owed slides struck slid ob bestRow chosen now snow path debt things stack ht t7 hp hc hr c0 c1 b1 N
  have L := c_L61_2 G C h1 h2 s0 s1 hG (t := t) (p := p) ht (by omega) hp c0 (by omega) 15 0 FU b owed slides struck slid ob bestRow chosen now snow path debt things stack (by omega) (by omega) (show 15 < 4000 by omega) hc hr (by omega) b1 N
  show So (fX1_tryNight_B (ftrn F) (iI hs) (iI n) (iI h) (iI b.1) owed slides struck slid ob bestRow chosen now snow path debt cy ho le inches hold below things stack code (iI (2 : Nat))) _
  unfold fX1_tryNight_B
  rw [show (((2 : Nat) : Nat) : Int) = 2 from rfl, if_neg (fun z => absurd ((iI_le (by omega) (by omega) (by omega) (by omega)).1 z) (by omega)), if_pos (by decide), if_neg (by decide), if_neg (by decide), if_pos (by rfl), so_bind]
  refine so_mono L ?_
  intro o ho
  rw [so_some]
  exact ho
