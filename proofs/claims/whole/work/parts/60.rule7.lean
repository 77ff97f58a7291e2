/-! the rule's days: the stack -/
def StA (a : Nat → Int32) : List Int32 → Prop
  | [] => True
  | x :: r => a r.length = x ∧ StA a r
theorem StA.up {a : Nat → Int32} (v : Int32) {n : Nat} : ∀ {r : List Int32}, StA a r → r.length ≤ n → StA (upd a n v) r
  | [], _, _ => trivial
  | x :: r, h, hn => by
    have hn' : r.length + 1 ≤ n := hn
    refine ⟨?_, StA.up v h.2 (by omega)⟩
    rw [upd_o _ _ (show r.length ≠ n by omega)]
    exact h.1
theorem StA.push {a : Nat → Int32} {r : List Int32} (h : StA a r) (v : Int32) : StA (upd a r.length v) (v :: r) := ⟨upd_s _ _ _, h.up v (Nat.le_refl _)⟩
theorem and7 {j : Int} (j0 : 0 ≤ j) (j1 : j ≤ 7) : iI j &&& iI 7 = iI j := by
  have e : j = 0 ∨ j = 1 ∨ j = 2 ∨ j = 3 ∨ j = 4 ∨ j = 5 ∨ j = 6 ∨ j = 7 := by omega
  rcases e with rfl | rfl | rfl | rfl | rfl | rfl | rfl | rfl <;> decide
theorem ev_L {c : List Int} {code things : Nat → Int32} {T : Int → Int} (l1 : (c.length : Int) ≤ 40) (hc : ∀ (j : Nat) (x : Int), c[j]? = some x → code j = iI x) (ok : ∀ x, x ∈ c → okC x) (ht : Arr 8 things T) :
    ∀ (s i : Nat) (st : List Int32) (stack : Nat → Int32), i + s = c.length → st.length ≤ i → StA stack st → ∀ f : Nat, s < f → So (fX4_daysOwed_L16 (iI c.length) things code f (iI st.length) (iI i) stack) (fun o => StA o (evs T (c.drop i) st)) := by
  intro s
  induction s with
  | zero =>
    intro i st stack hi hs hS f hf
    obtain ⟨f, rfl⟩ : ∃ g, f = g + 1 := ⟨f - 1, by omega⟩
    rw [fX4_daysOwed_L16]
    simp (disch := omega) only [gd_t, so_some, so_bind, so_gd, so_none, Option.bind_some, iI_add, iI_sub, iI_mul, iI_neg, iI_clamp, iI_nat, vin_i, iI_le, iI_lt, iI_eq, mn_i, mx_i, if_true, if_false, if_pos, if_neg, li_0, li_1, li_2, li_3, li_4, li_5, li_6, li_7, li_8, li_9, li_10, li_11, li_12, li_14, li_15, li_16, li_20, li_21, li_24, li_28, li_30, li_31, li_40, li_41, li_42, li_43, li_44, li_45, li_47, li_48, li_49, li_57, li_59, li_60, li_61, li_62, li_63, li_70, li_71, li_76, li_80, li_96, li_97, li_98, li_99, li_100, li_101, li_102, li_103, li_104, li_105, li_106, li_107, li_108, li_109, li_110, li_111, li_112, li_113, li_114, li_115, li_116, li_117, li_118, li_119, li_120, li_128, li_142, li_255, li_320, li_781, li_852, li_999, li_1000, li_2000, li_3000, li_9999, li_12345, li_65536, li_1000000, li_252645135, li_858993459, li_1103515245, li_1431655765]
    rw [List.drop_of_length_le (by omega)]
    exact hS
  | succ s ih =>
    intro i st stack hi hs hS f hf
    obtain ⟨f, rfl⟩ : ∃ g, f = g + 1 := ⟨f - 1, by omega⟩
    have hil : i < c.length := by omega
    have hx : c[i]? = some c[i] := List.getElem?_eq_getElem hil
    have hcx := hc i _ hx
    have hok := ok _ (List.getElem_mem hil)
    rw [List.drop_eq_getElem_cons hil]
    generalize c[i] = x at hcx hok
    show So _ (fun o => StA o (evs T (c.drop (i + 1)) (stp T x st)))
    have hci : code ((i : Int).toNat) = iI x := by rw [Int.toNat_natCast]; exact hcx
    have ii : (i : Int) + 1 = ((i + 1 : Nat) : Int) := by omega
    rcases hok with ⟨x0, x1⟩ | ⟨x0, x1⟩ | ⟨o, ho, rfl⟩ | rfl
    · have es : stp T x st = iI x :: st := by unfold stp; rw [if_neg (by omega), if_neg (by omega), if_neg (by omega)]
      have h := ih (i + 1) (iI x :: st) (upd stack st.length (iI x)) (by omega) (by show st.length + 1 ≤ _; omega) (hS.push _) f (by omega)
      rw [es]
      rw [fX4_daysOwed_L16]
      simp (disch := omega) only [gd_t, so_some, so_bind, so_gd, so_none, Option.bind_some, iI_add, iI_sub, iI_mul, iI_neg, iI_clamp, iI_nat, vin_i, iI_le, iI_lt, iI_eq, mn_i, mx_i, if_true, if_false, if_pos, if_neg, li_0, li_1, li_2, li_3, li_4, li_5, li_6, li_7, li_8, li_9, li_10, li_11, li_12, li_14, li_15, li_16, li_20, li_21, li_24, li_28, li_30, li_31, li_40, li_41, li_42, li_43, li_44, li_45, li_47, li_48, li_49, li_57, li_59, li_60, li_61, li_62, li_63, li_70, li_71, li_76, li_80, li_96, li_97, li_98, li_99, li_100, li_101, li_102, li_103, li_104, li_105, li_106, li_107, li_108, li_109, li_110, li_111, li_112, li_113, li_114, li_115, li_116, li_117, li_118, li_119, li_120, li_128, li_142, li_255, li_320, li_781, li_852, li_999, li_1000, li_2000, li_3000, li_9999, li_12345, li_65536, li_1000000, li_252645135, li_858993459, li_1103515245, li_1431655765, hci]
      rw [Int.toNat_natCast, ii, show (st.length : Int) + 1 = ((st.length + 1 : Nat) : Int) by omega]
      exact h
    · have es : stp T x st = iI (T (x - 1000)) :: st := by unfold stp; rw [if_neg (by omega), if_neg (by omega), if_pos (by omega)]
      have h := ih (i + 1) (iI (T (x - 1000)) :: st) (upd stack st.length (iI (T (x - 1000)))) (by omega) (by show st.length + 1 ≤ _; omega) (hS.push _) f (by omega)
      rw [es]
      rw [fX4_daysOwed_L16]
      simp (disch := omega) only [gd_t, so_some, so_bind, so_gd, so_none, Option.bind_some, iI_add, iI_sub, iI_mul, iI_neg, iI_clamp, iI_nat, vin_i, iI_le, iI_lt, iI_eq, mn_i, mx_i, if_true, if_false, if_pos, if_neg, li_0, li_1, li_2, li_3, li_4, li_5, li_6, li_7, li_8, li_9, li_10, li_11, li_12, li_14, li_15, li_16, li_20, li_21, li_24, li_28, li_30, li_31, li_40, li_41, li_42, li_43, li_44, li_45, li_47, li_48, li_49, li_57, li_59, li_60, li_61, li_62, li_63, li_70, li_71, li_76, li_80, li_96, li_97, li_98, li_99, li_100, li_101, li_102, li_103, li_104, li_105, li_106, li_107, li_108, li_109, li_110, li_111, li_112, li_113, li_114, li_115, li_116, li_117, li_118, li_119, li_120, li_128, li_142, li_255, li_320, li_781, li_852, li_999, li_1000, li_2000, li_3000, li_9999, li_12345, li_65536, li_1000000, li_252645135, li_858993459, li_1103515245, li_1431655765, hci, and7, ht.at]
      rw [Int.toNat_natCast, ii, show (st.length : Int) + 1 = ((st.length + 1 : Nat) : Int) by omega]
      exact h
    · have ob : 42 ≤ o ∧ o ≤ 62 := by unfold isO at ho; omega
      have es : stp T (2000 + o) st = jnL o st := by unfold stp; rw [if_neg (by omega), if_pos (by omega), show 2000 + o - 2000 = o by omega]
      rw [es]
      have sub : iI (2000 + o) - iI 2000 = iI o := by rw [iI_sub, show 2000 + o - 2000 = o by omega]
      match st, hS, hs with
      | [], hS, hs =>
        have h := ih (i + 1) [] stack (by omega) (by show 0 ≤ _; omega) hS f (by omega)
        rw [fX4_daysOwed_L16]
        simp (disch := omega) only [gd_t, so_some, so_bind, so_gd, so_none, Option.bind_some, iI_add, iI_sub, iI_mul, iI_neg, iI_clamp, iI_nat, vin_i, iI_le, iI_lt, iI_eq, mn_i, mx_i, if_true, if_false, if_pos, if_neg, li_0, li_1, li_2, li_3, li_4, li_5, li_6, li_7, li_8, li_9, li_10, li_11, li_12, li_14, li_15, li_16, li_20, li_21, li_24, li_28, li_30, li_31, li_40, li_41, li_42, li_43, li_44, li_45, li_47, li_48, li_49, li_57, li_59, li_60, li_61, li_62, li_63, li_70, li_71, li_76, li_80, li_96, li_97, li_98, li_99, li_100, li_101, li_102, li_103, li_104, li_105, li_106, li_107, li_108, li_109, li_110, li_111, li_112, li_113, li_114, li_115, li_116, li_117, li_118, li_119, li_120, li_128, li_142, li_255, li_320, li_781, li_852, li_999, li_1000, li_2000, li_3000, li_9999, li_12345, li_65536, li_1000000, li_252645135, li_858993459, li_1103515245, li_1431655765, hci, List.length_nil, Int.natCast_zero]
        rw [ii]
        exact h
      | [y], hS, hs =>
        have h := ih (i + 1) [y] stack (by omega) (by show 1 ≤ _; omega) hS f (by omega)
        rw [fX4_daysOwed_L16]
        rw [show (([y] : List Int32).length : Int) = 1 from rfl] at h ⊢
        simp (disch := omega) only [gd_t, so_some, so_bind, so_gd, so_none, Option.bind_some, iI_add, iI_sub, iI_mul, iI_neg, iI_clamp, iI_nat, vin_i, iI_le, iI_lt, iI_eq, mn_i, mx_i, if_true, if_false, if_pos, if_neg, li_0, li_1, li_2, li_3, li_4, li_5, li_6, li_7, li_8, li_9, li_10, li_11, li_12, li_14, li_15, li_16, li_20, li_21, li_24, li_28, li_30, li_31, li_40, li_41, li_42, li_43, li_44, li_45, li_47, li_48, li_49, li_57, li_59, li_60, li_61, li_62, li_63, li_70, li_71, li_76, li_80, li_96, li_97, li_98, li_99, li_100, li_101, li_102, li_103, li_104, li_105, li_106, li_107, li_108, li_109, li_110, li_111, li_112, li_113, li_114, li_115, li_116, li_117, li_118, li_119, li_120, li_128, li_142, li_255, li_320, li_781, li_852, li_999, li_1000, li_2000, li_3000, li_9999, li_12345, li_65536, li_1000000, li_252645135, li_858993459, li_1103515245, li_1431655765, hci]
        rw [ii]
        exact h
      | y :: z :: r, hS, hs =>
        have hl : ((y :: z :: r).length : Int) = (r.length : Int) + 2 := by show ((r.length + 1 + 1 : Nat) : Int) = _; omega
        have hs' : r.length + 2 ≤ i := hs
        have hy : stack (r.length + 1) = y := hS.1
        have hz : stack r.length = z := hS.2.1
        have h := ih (i + 1) (jn o z y :: r) (upd stack r.length (jn o z y)) (by omega) (by show r.length + 1 ≤ _; omega) (hS.2.2.push _) f (by omega)
        have hy' : stack ((r.length : Int) + 1).toNat = y := by rw [show ((r.length : Int) + 1).toNat = r.length + 1 by omega]; exact hy
        have hz' : stack ((r.length : Int)).toNat = z := by rw [Int.toNat_natCast]; exact hz
        have a1 : (r.length : Int) + 2 + -1 = (r.length : Int) + 1 := by omega
        have a2 : (r.length : Int) + 1 - 1 = (r.length : Int) := by omega
        rw [fX4_daysOwed_L16, hl]
        simp (disch := omega) only [gd_t, so_some, so_bind, so_gd, so_none, Option.bind_some, iI_add, iI_sub, iI_mul, iI_neg, iI_clamp, iI_nat, vin_i, iI_le, iI_lt, iI_eq, mn_i, mx_i, if_true, if_false, if_pos, if_neg, li_0, li_1, li_2, li_3, li_4, li_5, li_6, li_7, li_8, li_9, li_10, li_11, li_12, li_14, li_15, li_16, li_20, li_21, li_24, li_28, li_30, li_31, li_40, li_41, li_42, li_43, li_44, li_45, li_47, li_48, li_49, li_57, li_59, li_60, li_61, li_62, li_63, li_70, li_71, li_76, li_80, li_96, li_97, li_98, li_99, li_100, li_101, li_102, li_103, li_104, li_105, li_106, li_107, li_108, li_109, li_110, li_111, li_112, li_113, li_114, li_115, li_116, li_117, li_118, li_119, li_120, li_128, li_142, li_255, li_320, li_781, li_852, li_999, li_1000, li_2000, li_3000, li_9999, li_12345, li_65536, li_1000000, li_252645135, li_858993459, li_1103515245, li_1431655765, hci, a1, a2, hy', hz', show 2000 + o - 2000 = o by omega, c_join ho]
        rw [Int.toNat_natCast, ii, show (r.length : Int) + 1 = ((r.length + 1 : Nat) : Int) by omega]
        exact h
    · have es : stp T 3000 st = ngL st := rfl
      rw [es]
      match st, hS, hs with
      | [], hS, hs =>
        have h := ih (i + 1) [] stack (by omega) (by show 0 ≤ _; omega) hS f (by omega)
        rw [fX4_daysOwed_L16]
        simp (disch := omega) only [gd_t, so_some, so_bind, so_gd, so_none, Option.bind_some, iI_add, iI_sub, iI_mul, iI_neg, iI_clamp, iI_nat, vin_i, iI_le, iI_lt, iI_eq, mn_i, mx_i, if_true, if_false, if_pos, if_neg, li_0, li_1, li_2, li_3, li_4, li_5, li_6, li_7, li_8, li_9, li_10, li_11, li_12, li_14, li_15, li_16, li_20, li_21, li_24, li_28, li_30, li_31, li_40, li_41, li_42, li_43, li_44, li_45, li_47, li_48, li_49, li_57, li_59, li_60, li_61, li_62, li_63, li_70, li_71, li_76, li_80, li_96, li_97, li_98, li_99, li_100, li_101, li_102, li_103, li_104, li_105, li_106, li_107, li_108, li_109, li_110, li_111, li_112, li_113, li_114, li_115, li_116, li_117, li_118, li_119, li_120, li_128, li_142, li_255, li_320, li_781, li_852, li_999, li_1000, li_2000, li_3000, li_9999, li_12345, li_65536, li_1000000, li_252645135, li_858993459, li_1103515245, li_1431655765, hci, List.length_nil, Int.natCast_zero]
        rw [ii]
        exact h
      | y :: r, hS, hs =>
        have hl : ((y :: r).length : Int) = (r.length : Int) + 1 := by show ((r.length + 1 : Nat) : Int) = _; omega
        have hs' : r.length + 1 ≤ i := hs
        have hy : stack r.length = y := hS.1
        have h := ih (i + 1) (-y :: r) (upd stack r.length (-y)) (by omega) (by show r.length + 1 ≤ _; omega) (hS.2.push _) f (by omega)
        have hy' : stack ((r.length : Int)).toNat = y := by rw [Int.toNat_natCast]; exact hy
        have a2 : (r.length : Int) + 1 - 1 = (r.length : Int) := by omega
        rw [fX4_daysOwed_L16, hl]
        simp (disch := omega) only [gd_t, so_some, so_bind, so_gd, so_none, Option.bind_some, iI_add, iI_sub, iI_mul, iI_neg, iI_clamp, iI_nat, vin_i, iI_le, iI_lt, iI_eq, mn_i, mx_i, if_true, if_false, if_pos, if_neg, li_0, li_1, li_2, li_3, li_4, li_5, li_6, li_7, li_8, li_9, li_10, li_11, li_12, li_14, li_15, li_16, li_20, li_21, li_24, li_28, li_30, li_31, li_40, li_41, li_42, li_43, li_44, li_45, li_47, li_48, li_49, li_57, li_59, li_60, li_61, li_62, li_63, li_70, li_71, li_76, li_80, li_96, li_97, li_98, li_99, li_100, li_101, li_102, li_103, li_104, li_105, li_106, li_107, li_108, li_109, li_110, li_111, li_112, li_113, li_114, li_115, li_116, li_117, li_118, li_119, li_120, li_128, li_142, li_255, li_320, li_781, li_852, li_999, li_1000, li_2000, li_3000, li_9999, li_12345, li_65536, li_1000000, li_252645135, li_858993459, li_1103515245, li_1431655765, hci, a2, hy']
        rw [Int.toNat_natCast, ii, show (r.length : Int) + 1 = ((r.length + 1 : Nat) : Int) by omega]
        exact h
theorem cl99 (v : Int32) : mx 0 (mn 99 v) = iI (max 0 (min 99 v.toInt)) := by
  obtain ⟨X, rfl, h0, h1⟩ := iI_of v
  rw [iI_toInt h0 h1]
  simp (disch := omega) only [gd_t, so_some, so_bind, so_gd, so_none, Option.bind_some, iI_add, iI_sub, iI_mul, iI_neg, iI_clamp, iI_nat, vin_i, iI_le, iI_lt, iI_eq, mn_i, mx_i, if_true, if_false, if_pos, if_neg, li_0, li_1, li_2, li_3, li_4, li_5, li_6, li_7, li_8, li_9, li_10, li_11, li_12, li_14, li_15, li_16, li_20, li_21, li_24, li_28, li_30, li_31, li_40, li_41, li_42, li_43, li_44, li_45, li_47, li_48, li_49, li_57, li_59, li_60, li_61, li_62, li_63, li_70, li_71, li_76, li_80, li_96, li_97, li_98, li_99, li_100, li_101, li_102, li_103, li_104, li_105, li_106, li_107, li_108, li_109, li_110, li_111, li_112, li_113, li_114, li_115, li_116, li_117, li_118, li_119, li_120, li_128, li_142, li_255, li_320, li_781, li_852, li_999, li_1000, li_2000, li_3000, li_9999, li_12345, li_65536, li_1000000, li_252645135, li_858993459, li_1103515245, li_1431655765]
def T8 (a b c d e f g h : Int) : Int → Int := fun i => if i = 0 then a else if i = 1 then b else if i = 2 then c else if i = 3 then d else if i = 4 then e else if i = 5 then f else if i = 6 then g else h
theorem Arr.t8 {a : Nat → Int32} {T : Int → Int} (h : Arr 8 a T) : Arr 8 a (T8 (T 0) (T 1) (T 2) (T 3) (T 4) (T 5) (T 6) (T 7)) := by
  refine h.congr (fun x x0 x1 => ?_)
  have e : x = 0 ∨ x = 1 ∨ x = 2 ∨ x = 3 ∨ x = 4 ∨ x = 5 ∨ x = 6 ∨ x = 7 := by omega
  rcases e with rfl | rfl | rfl | rfl | rfl | rfl | rfl | rfl <;> rfl
/-- what a rule owes -/
def rv (V : (Int → Int) → Int32) : Int → Int → Int → Int → Int → Int → Int → Int → Int := fun a b c d e f g h => max 0 (min 99 (V (T8 a b c d e f g h)).toInt)
theorem rv_b (V : (Int → Int) → Int32) (a b c d e f g h : Int) : 0 ≤ rv V a b c d e f g h ∧ rv V a b c d e f g h ≤ 99 := by unfold rv; omega
theorem ruC_code {c : List Int} {V : (Int → Int) → Int32} (H : Cd c V) (l1 : (c.length : Int) ≤ 40) {code : Nat → Int32} (hc : ∀ (j : Nat) (x : Int), c[j]? = some x → code j = iI x) : RuC (rv V) (iI c.length) code := by
  intro things stack T ht
  have hE := ev_L l1 hc H.2 ht.t8 c.length 0 [] (upd stack 0 (things 0)) (by omega) (Nat.le_refl 0) trivial FU (by show _ < 4000; omega)
  unfold fX4_daysOwed fX4_daysOwed_J162
  have e0 : ((0 : Int32).toNatClampNeg) = 0 := rfl
  simp only [e0]
  rw [so_gd (by rfl), so_gd (by rfl), so_bind]
  refine so_mono hE ?_
  intro o ho
  rw [List.drop_zero, H.1] at ho
  have h0 : o 0 = V (T8 (T 0) (T 1) (T 2) (T 3) (T 4) (T 5) (T 6) (T 7)) := ho.1
  rw [so_gd (by rfl), so_some, h0, cl99]
  rfl
theorem ruC_none {code : Nat → Int32} : RuC (rv (fun T => iI (T 0))) (iI 0) code := by
  intro things stack T ht
  have e0 : ((0 : Int32).toNatClampNeg) = 0 := rfl
  have h0 : things 0 = iI (T 0) := ht 0 (by omega) (by omega)
  unfold fX4_daysOwed fX4_daysOwed_J162
  simp only [e0]
  rw [so_gd (by rfl), so_gd (by rfl), so_bind, show FU = 3999 + 1 from rfl, fX4_daysOwed_L16]
  simp (disch := omega) only [gd_t, so_some, so_bind, so_gd, so_none, Option.bind_some, iI_add, iI_sub, iI_mul, iI_neg, iI_clamp, iI_nat, vin_i, iI_le, iI_lt, iI_eq, mn_i, mx_i, if_true, if_false, if_pos, if_neg, li_0, li_1, li_2, li_3, li_4, li_5, li_6, li_7, li_8, li_9, li_10, li_11, li_12, li_14, li_15, li_16, li_20, li_21, li_24, li_28, li_30, li_31, li_40, li_41, li_42, li_43, li_44, li_45, li_47, li_48, li_49, li_57, li_59, li_60, li_61, li_62, li_63, li_70, li_71, li_76, li_80, li_96, li_97, li_98, li_99, li_100, li_101, li_102, li_103, li_104, li_105, li_106, li_107, li_108, li_109, li_110, li_111, li_112, li_113, li_114, li_115, li_116, li_117, li_118, li_119, li_120, li_128, li_142, li_255, li_320, li_781, li_852, li_999, li_1000, li_2000, li_3000, li_9999, li_12345, li_65536, li_1000000, li_252645135, li_858993459, li_1103515245, li_1431655765]
  rw [upd_s, h0, show iI 0 = (0 : Int32) from rfl, show iI 99 = (99 : Int32) from rfl, cl99]
  rfl
theorem ltr_0 {many q1 q2 q3 q4 q5 q6 : Int32} {hold weather : Nat → Int32} : LtR (iI 0) many q1 q2 q3 q4 q5 q6 hold weather (fun _ => 0) := by
  intro ch j _ k w
  unfold fX12_thing_J146
  rw [if_pos (by rfl)]
  rfl
theorem ltr_1 {many : Int32} {hold weather : Nat → Int32} {d p n rf be lo wv ho : Int} (hw : fX12_weatherOf many weather (iI n) = some (iI wv)) (r0 : 0 ≤ rf) (r1 : rf < 7) (hh : hold rf.toNat = iI ho) (w0 : -9 ≤ wv) (w1 : wv ≤ 9) :
    LtR (iI 1) many (iI d) (iI p) (iI n) (iI rf) (iI be) (iI lo) hold weather (T8 d p (max 0 (-wv)) ho n lo rf be) := by
  intro ch j h k w
  unfold fX12_thing_J146 fX12_letter
  rcases h with ⟨rfl, rfl⟩ | ⟨rfl, rfl⟩ | ⟨rfl, rfl⟩ | ⟨rfl, rfl⟩ | ⟨rfl, rfl⟩ | ⟨rfl, rfl⟩ | ⟨rfl, rfl⟩ | ⟨rfl, rfl⟩
  · rfl
  · rfl
  · simp (disch := omega) only [gd_t, so_some, so_bind, so_gd, so_none, Option.bind_some, iI_add, iI_sub, iI_mul, iI_neg, iI_clamp, iI_nat, vin_i, iI_le, iI_lt, iI_eq, mn_i, mx_i, if_true, if_false, if_pos, if_neg, li_0, li_1, li_2, li_3, li_4, li_5, li_6, li_7, li_8, li_9, li_10, li_11, li_12, li_14, li_15, li_16, li_20, li_21, li_24, li_28, li_30, li_31, li_40, li_41, li_42, li_43, li_44, li_45, li_47, li_48, li_49, li_57, li_59, li_60, li_61, li_62, li_63, li_70, li_71, li_76, li_80, li_96, li_97, li_98, li_99, li_100, li_101, li_102, li_103, li_104, li_105, li_106, li_107, li_108, li_109, li_110, li_111, li_112, li_113, li_114, li_115, li_116, li_117, li_118, li_119, li_120, li_128, li_142, li_255, li_320, li_781, li_852, li_999, li_1000, li_2000, li_3000, li_9999, li_12345, li_65536, li_1000000, li_252645135, li_858993459, li_1103515245, li_1431655765, fX12_thawOf, hw]
    rfl
  · simp (disch := omega) only [gd_t, so_some, so_bind, so_gd, so_none, Option.bind_some, iI_add, iI_sub, iI_mul, iI_neg, iI_clamp, iI_nat, vin_i, iI_le, iI_lt, iI_eq, mn_i, mx_i, if_true, if_false, if_pos, if_neg, li_0, li_1, li_2, li_3, li_4, li_5, li_6, li_7, li_8, li_9, li_10, li_11, li_12, li_14, li_15, li_16, li_20, li_21, li_24, li_28, li_30, li_31, li_40, li_41, li_42, li_43, li_44, li_45, li_47, li_48, li_49, li_57, li_59, li_60, li_61, li_62, li_63, li_70, li_71, li_76, li_80, li_96, li_97, li_98, li_99, li_100, li_101, li_102, li_103, li_104, li_105, li_106, li_107, li_108, li_109, li_110, li_111, li_112, li_113, li_114, li_115, li_116, li_117, li_118, li_119, li_120, li_128, li_142, li_255, li_320, li_781, li_852, li_999, li_1000, li_2000, li_3000, li_9999, li_12345, li_65536, li_1000000, li_252645135, li_858993459, li_1103515245, li_1431655765, hh]
    rfl
  · rfl
  · rfl
  · rfl
  · rfl
theorem ruM_text {Tx : Int → Int} {l : Int} {V : (Int → Int) → Int32} {k' mf : Int} (l0 : 0 < l) (l1 : l ≤ 40) (mf1 : mf ≤ 80) (M : MO Tx l 0 mf 0 0 (fun T p => p = (V T, iI k', iI (-1)))) {rule : Nat → Int32} (hr : Arr l rule (fun i => sb (Tx i))) : RuM (rv V) (iI l) rule := by
  intro many weather hold rr len top at' wrong asked d p n rf be lo wv ho hw r0 r1 hh w0 w1
  have lt := ltr_1 (d := d) (p := p) (be := be) (lo := lo) hw r0 r1 hh w0 w1
  have m1 := M 80 40 rule (iI 1) many (iI d) (iI p) (iI n) (iI rf) (iI be) (iI lo) hold weather _ (by omega) (by omega) (by omega) (by rw [show min l 40 = l by omega]; exact hr) lt
  unfold fX12_ruled fX12_begin fX12_held
  have z : ¬ iI l = 0 := by rw [li_0, iI_eq (by omega) (by omega) (by omega) (by omega)]; omega
  rw [if_neg z, Option.bind_some, so_bind]
  refine so_mono m1 ?_
  intro o ho
  rw [so_some, ho]
  exact cl99 _
theorem ruM_none {rule : Nat → Int32} : RuM (rv (fun T => iI (T 0))) (iI 0) rule := by
  intro many weather hold rr len top at' wrong asked d p n rf be lo wv ho hw r0 r1 hh w0 w1
  unfold fX12_ruled
  rw [if_pos (by rfl), so_some]
  exact cl99 _
theorem by_sb {x : Int} (x0 : 0 ≤ x) (x1 : x ≤ 255) : vp_nar .byte (iI (sb x)) = iI (sb x) := by
  show (iI (sb x)).toInt8.toInt32 = _
  apply Int32.toInt.inj
  rw [Int8.toInt_toInt32, Int32.toInt_toInt8, iI_toInt (by unfold sb; split <;> omega) (by unfold sb; split <;> omega), Int.bmod_def]
  unfold sb
  split <;> split <;> omega
theorem m_ruleL {Tx : Int → Int} (hT : ∀ i, 0 ≤ Tx i ∧ Tx i ≤ 255) {l : Int} {b : Nat → Int32} (hb : Arr 80 b (fun i => sb (Tx i))) (l0 : 0 ≤ l) (l1 : l ≤ 40) :
    ∀ (s : Nat) (i : Int) (rule : Nat → Int32), 0 ≤ i → i + s = l → Arr i rule (fun i => sb (Tx i)) → ∀ f : Nat, s < f → So (fX12_rule_L73 b (iI l) f (iI i) rule) (fun o => Arr l o (fun i => sb (Tx i))) := by
  intro s
  induction s with
  | zero =>
    intro i rule i0 hi hr f hf
    obtain ⟨f, rfl⟩ : ∃ g, f = g + 1 := ⟨f - 1, by omega⟩
    rw [fX12_rule_L73]
    simp (disch := omega) only [gd_t, so_some, so_bind, so_gd, so_none, Option.bind_some, iI_add, iI_sub, iI_mul, iI_neg, iI_clamp, iI_nat, vin_i, iI_le, iI_lt, iI_eq, mn_i, mx_i, if_true, if_false, if_pos, if_neg, li_0, li_1, li_2, li_3, li_4, li_5, li_6, li_7, li_8, li_9, li_10, li_11, li_12, li_14, li_15, li_16, li_20, li_21, li_24, li_28, li_30, li_31, li_40, li_41, li_42, li_43, li_44, li_45, li_47, li_48, li_49, li_57, li_59, li_60, li_61, li_62, li_63, li_70, li_71, li_76, li_80, li_96, li_97, li_98, li_99, li_100, li_101, li_102, li_103, li_104, li_105, li_106, li_107, li_108, li_109, li_110, li_111, li_112, li_113, li_114, li_115, li_116, li_117, li_118, li_119, li_120, li_128, li_142, li_255, li_320, li_781, li_852, li_999, li_1000, li_2000, li_3000, li_9999, li_12345, li_65536, li_1000000, li_252645135, li_858993459, li_1103515245, li_1431655765]
    rw [show l = i by omega]
    exact hr
  | succ s ih =>
    intro i rule i0 hi hr f hf
    obtain ⟨f, rfl⟩ : ∃ g, f = g + 1 := ⟨f - 1, by omega⟩
    rw [fX12_rule_L73]
    have hbi := hb.at (x := i) i0 (by omega)
    simp (disch := omega) only [gd_t, so_some, so_bind, so_gd, so_none, Option.bind_some, iI_add, iI_sub, iI_mul, iI_neg, iI_clamp, iI_nat, vin_i, iI_le, iI_lt, iI_eq, mn_i, mx_i, if_true, if_false, if_pos, if_neg, li_0, li_1, li_2, li_3, li_4, li_5, li_6, li_7, li_8, li_9, li_10, li_11, li_12, li_14, li_15, li_16, li_20, li_21, li_24, li_28, li_30, li_31, li_40, li_41, li_42, li_43, li_44, li_45, li_47, li_48, li_49, li_57, li_59, li_60, li_61, li_62, li_63, li_70, li_71, li_76, li_80, li_96, li_97, li_98, li_99, li_100, li_101, li_102, li_103, li_104, li_105, li_106, li_107, li_108, li_109, li_110, li_111, li_112, li_113, li_114, li_115, li_116, li_117, li_118, li_119, li_120, li_128, li_142, li_255, li_320, li_781, li_852, li_999, li_1000, li_2000, li_3000, li_9999, li_12345, li_65536, li_1000000, li_252645135, li_858993459, li_1103515245, li_1431655765, hbi, by_sb (hT i).1 (hT i).2]
    refine ih (i + 1) _ (by omega) (by omega) ?_ f (by omega)
    intro x x0 x1
    by_cases q : x = i
    · rw [q, upd_s]
    · rw [upd_o _ _ (by omega)]
      exact hr x x0 (by omega)
def Er (E : EN) (r : Int → Int → Int → Int → Int → Int → Int → Int → Int) : EN := (E.1, E.2.1, E.2.2.1, E.2.2.2.1, r)
theorem EnG.r {E : EN} (G : EnG E) (V : (Int → Int) → Int32) : EnG (Er E (rv V)) := ⟨G.1, G.2.1, G.2.2.1, G.2.2.2.1, rv_b V⟩
