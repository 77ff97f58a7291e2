/-! the rule: codes and values -/
theorem gd_h {α : Type} {b : Bool} (h : b = true) (k : Option α) : gd b k = k := by rw [h, gd_t]
def jn (c : Int) (x y : Int32) : Int32 :=
  if c = 42 then x * y else if c = 43 then x + y else if c = 45 then x - y else if c = 47 then (if y = 0 then 0 else x / y) else if c = 60 then (if y ≤ x then 0 else 1) else if c = 62 then (if x ≤ y then 0 else 1) else (if x = y then 1 else 0)
def isO (c : Int) : Prop := c = 42 ∨ c = 43 ∨ c = 45 ∨ c = 47 ∨ c = 60 ∨ c = 61 ∨ c = 62
theorem c_join {c : Int} (h : isO c) (x y : Int32) : fX4_join (iI c) x y = some (jn c x y) := by
  unfold fX4_join jn
  rcases h with rfl | rfl | rfl | rfl | rfl | rfl | rfl
  · simp (disch := omega) only [gd_t, so_some, so_bind, so_gd, so_none, Option.bind_some, iI_add, iI_sub, iI_mul, iI_neg, iI_clamp, iI_nat, vin_i, iI_le, iI_lt, iI_eq, mn_i, mx_i, if_true, if_false, if_pos, if_neg, li_0, li_1, li_2, li_3, li_4, li_5, li_6, li_7, li_8, li_9, li_10, li_11, li_12, li_14, li_15, li_16, li_20, li_21, li_24, li_28, li_30, li_31, li_40, li_41, li_42, li_43, li_44, li_45, li_47, li_48, li_49, li_57, li_59, li_60, li_61, li_62, li_63, li_70, li_71, li_76, li_80, li_96, li_97, li_98, li_99, li_100, li_101, li_102, li_103, li_104, li_105, li_106, li_107, li_108, li_109, li_110, li_111, li_112, li_113, li_114, li_115, li_116, li_117, li_118, li_119, li_120, li_128, li_142, li_255, li_320, li_781, li_852, li_999, li_1000, li_2000, li_3000, li_9999, li_12345, li_65536, li_1000000, li_252645135, li_858993459, li_1103515245, li_1431655765]
  · simp (disch := omega) only [gd_t, so_some, so_bind, so_gd, so_none, Option.bind_some, iI_add, iI_sub, iI_mul, iI_neg, iI_clamp, iI_nat, vin_i, iI_le, iI_lt, iI_eq, mn_i, mx_i, if_true, if_false, if_pos, if_neg, li_0, li_1, li_2, li_3, li_4, li_5, li_6, li_7, li_8, li_9, li_10, li_11, li_12, li_14, li_15, li_16, li_20, li_21, li_24, li_28, li_30, li_31, li_40, li_41, li_42, li_43, li_44, li_45, li_47, li_48, li_49, li_57, li_59, li_60, li_61, li_62, li_63, li_70, li_71, li_76, li_80, li_96, li_97, li_98, li_99, li_100, li_101, li_102, li_103, li_104, li_105, li_106, li_107, li_108, li_109, li_110, li_111, li_112, li_113, li_114, li_115, li_116, li_117, li_118, li_119, li_120, li_128, li_142, li_255, li_320, li_781, li_852, li_999, li_1000, li_2000, li_3000, li_9999, li_12345, li_65536, li_1000000, li_252645135, li_858993459, li_1103515245, li_1431655765]
  · simp (disch := omega) only [gd_t, so_some, so_bind, so_gd, so_none, Option.bind_some, iI_add, iI_sub, iI_mul, iI_neg, iI_clamp, iI_nat, vin_i, iI_le, iI_lt, iI_eq, mn_i, mx_i, if_true, if_false, if_pos, if_neg, li_0, li_1, li_2, li_3, li_4, li_5, li_6, li_7, li_8, li_9, li_10, li_11, li_12, li_14, li_15, li_16, li_20, li_21, li_24, li_28, li_30, li_31, li_40, li_41, li_42, li_43, li_44, li_45, li_47, li_48, li_49, li_57, li_59, li_60, li_61, li_62, li_63, li_70, li_71, li_76, li_80, li_96, li_97, li_98, li_99, li_100, li_101, li_102, li_103, li_104, li_105, li_106, li_107, li_108, li_109, li_110, li_111, li_112, li_113, li_114, li_115, li_116, li_117, li_118, li_119, li_120, li_128, li_142, li_255, li_320, li_781, li_852, li_999, li_1000, li_2000, li_3000, li_9999, li_12345, li_65536, li_1000000, li_252645135, li_858993459, li_1103515245, li_1431655765]
  · by_cases q : y = iI 0
    · simp (disch := omega) only [gd_t, so_some, so_bind, so_gd, so_none, Option.bind_some, iI_add, iI_sub, iI_mul, iI_neg, iI_clamp, iI_nat, vin_i, iI_le, iI_lt, iI_eq, mn_i, mx_i, if_true, if_false, if_pos, if_neg, li_0, li_1, li_2, li_3, li_4, li_5, li_6, li_7, li_8, li_9, li_10, li_11, li_12, li_14, li_15, li_16, li_20, li_21, li_24, li_28, li_30, li_31, li_40, li_41, li_42, li_43, li_44, li_45, li_47, li_48, li_49, li_57, li_59, li_60, li_61, li_62, li_63, li_70, li_71, li_76, li_80, li_96, li_97, li_98, li_99, li_100, li_101, li_102, li_103, li_104, li_105, li_106, li_107, li_108, li_109, li_110, li_111, li_112, li_113, li_114, li_115, li_116, li_117, li_118, li_119, li_120, li_128, li_142, li_255, li_320, li_781, li_852, li_999, li_1000, li_2000, li_3000, li_9999, li_12345, li_65536, li_1000000, li_252645135, li_858993459, li_1103515245, li_1431655765, q]
    · simp (disch := omega) only [gd_t, so_some, so_bind, so_gd, so_none, Option.bind_some, iI_add, iI_sub, iI_mul, iI_neg, iI_clamp, iI_nat, vin_i, iI_le, iI_lt, iI_eq, mn_i, mx_i, if_true, if_false, if_pos, if_neg, li_0, li_1, li_2, li_3, li_4, li_5, li_6, li_7, li_8, li_9, li_10, li_11, li_12, li_14, li_15, li_16, li_20, li_21, li_24, li_28, li_30, li_31, li_40, li_41, li_42, li_43, li_44, li_45, li_47, li_48, li_49, li_57, li_59, li_60, li_61, li_62, li_63, li_70, li_71, li_76, li_80, li_96, li_97, li_98, li_99, li_100, li_101, li_102, li_103, li_104, li_105, li_106, li_107, li_108, li_109, li_110, li_111, li_112, li_113, li_114, li_115, li_116, li_117, li_118, li_119, li_120, li_128, li_142, li_255, li_320, li_781, li_852, li_999, li_1000, li_2000, li_3000, li_9999, li_12345, li_65536, li_1000000, li_252645135, li_858993459, li_1103515245, li_1431655765, q, gd_h (show nz y = true by unfold nz; exact decide_eq_true q)]
  · simp (disch := omega) only [gd_t, so_some, so_bind, so_gd, so_none, Option.bind_some, iI_add, iI_sub, iI_mul, iI_neg, iI_clamp, iI_nat, vin_i, iI_le, iI_lt, iI_eq, mn_i, mx_i, if_true, if_false, if_pos, if_neg, li_0, li_1, li_2, li_3, li_4, li_5, li_6, li_7, li_8, li_9, li_10, li_11, li_12, li_14, li_15, li_16, li_20, li_21, li_24, li_28, li_30, li_31, li_40, li_41, li_42, li_43, li_44, li_45, li_47, li_48, li_49, li_57, li_59, li_60, li_61, li_62, li_63, li_70, li_71, li_76, li_80, li_96, li_97, li_98, li_99, li_100, li_101, li_102, li_103, li_104, li_105, li_106, li_107, li_108, li_109, li_110, li_111, li_112, li_113, li_114, li_115, li_116, li_117, li_118, li_119, li_120, li_128, li_142, li_255, li_320, li_781, li_852, li_999, li_1000, li_2000, li_3000, li_9999, li_12345, li_65536, li_1000000, li_252645135, li_858993459, li_1103515245, li_1431655765]
    by_cases q : y ≤ x
    · rw [if_pos q, if_pos q]
    · rw [if_neg q, if_neg q]
  · simp (disch := omega) only [gd_t, so_some, so_bind, so_gd, so_none, Option.bind_some, iI_add, iI_sub, iI_mul, iI_neg, iI_clamp, iI_nat, vin_i, iI_le, iI_lt, iI_eq, mn_i, mx_i, if_true, if_false, if_pos, if_neg, li_0, li_1, li_2, li_3, li_4, li_5, li_6, li_7, li_8, li_9, li_10, li_11, li_12, li_14, li_15, li_16, li_20, li_21, li_24, li_28, li_30, li_31, li_40, li_41, li_42, li_43, li_44, li_45, li_47, li_48, li_49, li_57, li_59, li_60, li_61, li_62, li_63, li_70, li_71, li_76, li_80, li_96, li_97, li_98, li_99, li_100, li_101, li_102, li_103, li_104, li_105, li_106, li_107, li_108, li_109, li_110, li_111, li_112, li_113, li_114, li_115, li_116, li_117, li_118, li_119, li_120, li_128, li_142, li_255, li_320, li_781, li_852, li_999, li_1000, li_2000, li_3000, li_9999, li_12345, li_65536, li_1000000, li_252645135, li_858993459, li_1103515245, li_1431655765]
    by_cases q : x = y
    · rw [if_pos q, if_pos q]
    · rw [if_neg q, if_neg q]
  · simp (disch := omega) only [gd_t, so_some, so_bind, so_gd, so_none, Option.bind_some, iI_add, iI_sub, iI_mul, iI_neg, iI_clamp, iI_nat, vin_i, iI_le, iI_lt, iI_eq, mn_i, mx_i, if_true, if_false, if_pos, if_neg, li_0, li_1, li_2, li_3, li_4, li_5, li_6, li_7, li_8, li_9, li_10, li_11, li_12, li_14, li_15, li_16, li_20, li_21, li_24, li_28, li_30, li_31, li_40, li_41, li_42, li_43, li_44, li_45, li_47, li_48, li_49, li_57, li_59, li_60, li_61, li_62, li_63, li_70, li_71, li_76, li_80, li_96, li_97, li_98, li_99, li_100, li_101, li_102, li_103, li_104, li_105, li_106, li_107, li_108, li_109, li_110, li_111, li_112, li_113, li_114, li_115, li_116, li_117, li_118, li_119, li_120, li_128, li_142, li_255, li_320, li_781, li_852, li_999, li_1000, li_2000, li_3000, li_9999, li_12345, li_65536, li_1000000, li_252645135, li_858993459, li_1103515245, li_1431655765]
    by_cases q : x ≤ y
    · rw [if_pos q, if_pos q]
    · rw [if_neg q, if_neg q]
def ngL : List Int32 → List Int32
  | x :: r => -x :: r
  | [] => []
def jnL (c : Int) : List Int32 → List Int32
  | y :: x :: r => jn c x y :: r
  | s => s
def stp (T : Int → Int) (c : Int) (s : List Int32) : List Int32 :=
  if c = 3000 then ngL s else if 2000 ≤ c then jnL (c - 2000) s else if 1000 ≤ c then iI (T (c - 1000)) :: s else iI c :: s
def evs (T : Int → Int) : List Int → List Int32 → List Int32
  | [], s => s
  | c :: r, s => evs T r (stp T c s)
theorem evs_app (T : Int → Int) : ∀ (c d : List Int) (s : List Int32), evs T (c ++ d) s = evs T d (evs T c s)
  | [], _, _ => rfl
  | x :: r, d, s => evs_app T r d (stp T x s)
/-- a code that means something -/
def okC (x : Int) : Prop := (0 ≤ x ∧ x ≤ 999) ∨ (1000 ≤ x ∧ x ≤ 1007) ∨ (∃ c, isO c ∧ x = 2000 + c) ∨ x = 3000
def Cd (c : List Int) (V : (Int → Int) → Int32) : Prop := (∀ T s, evs T c s = V T :: s) ∧ ∀ x, x ∈ c → okC x
theorem Cd.num {v : Int} (v0 : 0 ≤ v) (v1 : v ≤ 999) : Cd [v] (fun _ => iI v) := by
  refine ⟨fun T s => ?_, fun x hx => ?_⟩
  · show stp T v s = _
    unfold stp
    rw [if_neg (by omega), if_neg (by omega), if_neg (by omega)]
  · rw [List.mem_singleton] at hx
    rw [hx]
    exact Or.inl ⟨v0, v1⟩
theorem Cd.thing {j : Int} (j0 : 0 ≤ j) (j1 : j ≤ 7) : Cd [1000 + j] (fun T => iI (T j)) := by
  refine ⟨fun T s => ?_, fun x hx => ?_⟩
  · show stp T (1000 + j) s = _
    unfold stp
    rw [if_neg (by omega), if_neg (by omega), if_pos (by omega), show 1000 + j - 1000 = j by omega]
  · rw [List.mem_singleton] at hx
    rw [hx]
    exact Or.inr (Or.inl ⟨by omega, by omega⟩)
theorem Cd.neg {c : List Int} {V : (Int → Int) → Int32} (H : Cd c V) : Cd (c ++ [3000]) (fun T => -(V T)) := by
  refine ⟨fun T s => ?_, fun x hx => ?_⟩
  · rw [evs_app, H.1]
    rfl
  · rcases List.mem_append.1 hx with h | h
    · exact H.2 x h
    · rw [List.mem_singleton] at h
      exact Or.inr (Or.inr (Or.inr h))
theorem Cd.join {c d : List Int} {V W : (Int → Int) → Int32} {o : Int} (ho : isO o) (H : Cd c V) (K : Cd d W) : Cd (c ++ d ++ [2000 + o]) (fun T => jn o (V T) (W T)) := by
  have ob : 42 ≤ o ∧ o ≤ 62 := by unfold isO at ho; omega
  refine ⟨fun T s => ?_, fun x hx => ?_⟩
  · rw [evs_app, evs_app, H.1, K.1]
    show stp T (2000 + o) (W T :: V T :: s) = _
    unfold stp
    rw [if_neg (by omega), if_pos (by omega), show 2000 + o - 2000 = o by omega]
    rfl
  · rcases List.mem_append.1 hx with h | h
    · rcases List.mem_append.1 h with h | h
      · exact H.2 x h
      · exact K.2 x h
    · rw [List.mem_singleton] at h
      exact Or.inr (Or.inr (Or.inl ⟨o, ho, h⟩))
/-- codes laid behind D others -/
def Lay (D : Int) (c : List Int) (draft draft' : Nat → Int32) : Prop := (∀ j : Nat, (j : Int) < D → draft' j = draft j) ∧ ∀ (j : Nat) (x : Int), c[j]? = some x → draft' (D.toNat + j) = iI x
theorem Lay.nil (D : Int) (draft : Nat → Int32) : Lay D [] draft draft := ⟨fun _ _ => rfl, fun j x h => by simp at h⟩
theorem Lay.app {D : Int} (D0 : 0 ≤ D) {c d : List Int} {a b e : Nat → Int32} (H : Lay D c a b) (K : Lay (D + c.length) d b e) : Lay D (c ++ d) a e := by
  refine ⟨fun j hj => ?_, fun j x hx => ?_⟩
  · rw [K.1 j (by omega), H.1 j hj]
  · by_cases q : j < c.length
    · rw [List.getElem?_append_left q] at hx
      rw [K.1 (D.toNat + j) (by omega)]
      exact H.2 j x hx
    · rw [List.getElem?_append_right (by omega)] at hx
      have := K.2 (j - c.length) x hx
      rw [show (D + (c.length : Int)).toNat + (j - c.length) = D.toNat + j by omega] at this
      exact this
theorem Lay.one (D : Int) (D0 : 0 ≤ D) (x : Int) (draft : Nat → Int32) : Lay D [x] draft (upd draft D.toNat (iI x)) := by
  refine ⟨fun j hj => upd_o _ _ (by omega), fun j y hy => ?_⟩
  cases j with
  | zero =>
    have : x = y := by simpa using hy
    rw [Nat.add_zero, upd_s, this]
  | succ j => simp at hy
theorem c_put {D : Int} (D0 : 0 ≤ D) (D1 : D < 40) (draft : Nat → Int32) (v : Int) : fX4_put (iI D) draft (iI v) = some (iI (D + 1), upd draft D.toNat (iI v)) := by
  unfold fX4_put
  simp (disch := omega) only [gd_t, so_some, so_bind, so_gd, so_none, Option.bind_some, iI_add, iI_sub, iI_mul, iI_neg, iI_clamp, iI_nat, vin_i, iI_le, iI_lt, iI_eq, mn_i, mx_i, if_true, if_false, if_pos, if_neg, li_0, li_1, li_2, li_3, li_4, li_5, li_6, li_7, li_8, li_9, li_10, li_11, li_12, li_14, li_15, li_16, li_20, li_21, li_24, li_28, li_30, li_31, li_40, li_41, li_42, li_43, li_44, li_45, li_47, li_48, li_49, li_57, li_59, li_60, li_61, li_62, li_63, li_70, li_71, li_76, li_80, li_96, li_97, li_98, li_99, li_100, li_101, li_102, li_103, li_104, li_105, li_106, li_107, li_108, li_109, li_110, li_111, li_112, li_113, li_114, li_115, li_116, li_117, li_118, li_119, li_120, li_128, li_142, li_255, li_320, li_781, li_852, li_999, li_1000, li_2000, li_3000, li_9999, li_12345, li_65536, li_1000000, li_252645135, li_858993459, li_1103515245, li_1431655765]
theorem c_put_any {D : Int} (D0 : 0 ≤ D) (D1 : D ≤ 1000) (draft : Nat → Int32) (v : Int32) : ∃ o, fX4_put (iI D) draft v = some o := by
  unfold fX4_put
  by_cases q : 40 ≤ D
  · simp (disch := omega) only [gd_t, so_some, so_bind, so_gd, so_none, Option.bind_some, iI_add, iI_sub, iI_mul, iI_neg, iI_clamp, iI_nat, vin_i, iI_le, iI_lt, iI_eq, mn_i, mx_i, if_true, if_false, if_pos, if_neg, li_0, li_1, li_2, li_3, li_4, li_5, li_6, li_7, li_8, li_9, li_10, li_11, li_12, li_14, li_15, li_16, li_20, li_21, li_24, li_28, li_30, li_31, li_40, li_41, li_42, li_43, li_44, li_45, li_47, li_48, li_49, li_57, li_59, li_60, li_61, li_62, li_63, li_70, li_71, li_76, li_80, li_96, li_97, li_98, li_99, li_100, li_101, li_102, li_103, li_104, li_105, li_106, li_107, li_108, li_109, li_110, li_111, li_112, li_113, li_114, li_115, li_116, li_117, li_118, li_119, li_120, li_128, li_142, li_255, li_320, li_781, li_852, li_999, li_1000, li_2000, li_3000, li_9999, li_12345, li_65536, li_1000000, li_252645135, li_858993459, li_1103515245, li_1431655765]
    exact ⟨_, rfl⟩
  · simp (disch := omega) only [gd_t, so_some, so_bind, so_gd, so_none, Option.bind_some, iI_add, iI_sub, iI_mul, iI_neg, iI_clamp, iI_nat, vin_i, iI_le, iI_lt, iI_eq, mn_i, mx_i, if_true, if_false, if_pos, if_neg, li_0, li_1, li_2, li_3, li_4, li_5, li_6, li_7, li_8, li_9, li_10, li_11, li_12, li_14, li_15, li_16, li_20, li_21, li_24, li_28, li_30, li_31, li_40, li_41, li_42, li_43, li_44, li_45, li_47, li_48, li_49, li_57, li_59, li_60, li_61, li_62, li_63, li_70, li_71, li_76, li_80, li_96, li_97, li_98, li_99, li_100, li_101, li_102, li_103, li_104, li_105, li_106, li_107, li_108, li_109, li_110, li_111, li_112, li_113, li_114, li_115, li_116, li_117, li_118, li_119, li_120, li_128, li_142, li_255, li_320, li_781, li_852, li_999, li_1000, li_2000, li_3000, li_9999, li_12345, li_65536, li_1000000, li_252645135, li_858993459, li_1103515245, li_1431655765]
    exact ⟨_, rfl⟩
theorem frul_0 (t : Nat) (D : Int32) (dr : Nat → Int32) (pl m : Int32) (a : Nat → Int32) (d : Int32) : frul (t + 1) 0 D dr pl m a d = fX4_readComparison_B (frul t) D dr pl m a d := rfl
theorem frul_1 (t : Nat) (D : Int32) (dr : Nat → Int32) (pl m : Int32) (a : Nat → Int32) (d : Int32) : frul (t + 1) 1 D dr pl m a d = fX4_readSum_B (frul t) D dr pl m a d := rfl
theorem frul_2 (t : Nat) (D : Int32) (dr : Nat → Int32) (pl m : Int32) (a : Nat → Int32) (d : Int32) : frul (t + 1) 2 D dr pl m a d = fX4_readProduct_B (frul t) D dr pl m a d := rfl
theorem frul_3 (t : Nat) (D : Int32) (dr : Nat → Int32) (pl m : Int32) (a : Nat → Int32) (d : Int32) : frul (t + 1) 3 D dr pl m a d = fX4_readFactor_B (frul t) D dr pl m a d := rfl
theorem frul_4 (t : Nat) (D : Int32) (dr : Nat → Int32) (pl m : Int32) (a : Nat → Int32) (d : Int32) : frul (t + 1) 4 D dr pl m a d = fX4_readThing_B (frul t) D dr pl m a d := rfl
theorem fhsp_0 (t nb : Nat) (many l tp k w asked q1 q2 q3 q4 q5 q6 : Int32) (b hold weather : Nat → Int32) (d : Int32) : fhsp (t + 1) 0 nb many l tp k w asked q1 q2 q3 q4 q5 q6 b hold weather d = fX12_held_B (fhsp t) nb many l tp k w asked q1 q2 q3 q4 q5 q6 b hold weather d := rfl
theorem fhsp_1 (t nb : Nat) (many l tp k w asked q1 q2 q3 q4 q5 q6 : Int32) (b hold weather : Nat → Int32) (d : Int32) : fhsp (t + 1) 1 nb many l tp k w asked q1 q2 q3 q4 q5 q6 b hold weather d = fX12_sum_B (fhsp t) nb many l tp k w asked q1 q2 q3 q4 q5 q6 b hold weather d := rfl
theorem fhsp_2 (t nb : Nat) (many l tp k w asked q1 q2 q3 q4 q5 q6 : Int32) (b hold weather : Nat → Int32) (d : Int32) : fhsp (t + 1) 2 nb many l tp k w asked q1 q2 q3 q4 q5 q6 b hold weather d = fX12_product_B (fhsp t) nb many l tp k w asked q1 q2 q3 q4 q5 q6 b hold weather d := rfl
theorem fhsp_3 (t nb : Nat) (many l tp k w asked q1 q2 q3 q4 q5 q6 : Int32) (b hold weather : Nat → Int32) (d : Int32) : fhsp (t + 1) 3 nb many l tp k w asked q1 q2 q3 q4 q5 q6 b hold weather d = fX12_thing_B (fhsp t) nb many l tp k w asked q1 q2 q3 q4 q5 q6 b hold weather d := rfl
/-! what both know of a piece of the text -/
theorem m_hereL {n : Nat} {T : Int → Int} {l tp k : Int} {a : Nat → Int32} (ha : Arr (min l tp) a (fun i => sb (T i))) (k0 : 0 ≤ k) (l0 : 0 ≤ l) (l1 : l ≤ 1000) (t0 : 0 ≤ tp) (t1 : tp ≤ 1000) (k1 : k < 1000) (hn : min l tp ≤ n) (n1 : n ≤ 1000) : fX12_here n (iI l) (iI tp) (iI k) a = some (iI (sb (hk T (min l tp) k))) := by
  unfold fX12_here hk
  by_cases q : l ≤ k
  · rw [if_neg (show ¬ k < min l tp by omega)]
    simp (disch := omega) only [gd_t, so_some, so_bind, so_gd, so_none, Option.bind_some, iI_add, iI_sub, iI_mul, iI_neg, iI_clamp, iI_nat, vin_i, iI_le, iI_lt, iI_eq, mn_i, mx_i, if_true, if_false, if_pos, if_neg, li_0, li_1, li_2, li_3, li_4, li_5, li_6, li_7, li_8, li_9, li_10, li_11, li_12, li_14, li_15, li_16, li_20, li_21, li_24, li_28, li_30, li_31, li_40, li_41, li_42, li_43, li_44, li_45, li_47, li_48, li_49, li_57, li_59, li_60, li_61, li_62, li_63, li_70, li_71, li_76, li_80, li_96, li_97, li_98, li_99, li_100, li_101, li_102, li_103, li_104, li_105, li_106, li_107, li_108, li_109, li_110, li_111, li_112, li_113, li_114, li_115, li_116, li_117, li_118, li_119, li_120, li_128, li_142, li_255, li_320, li_781, li_852, li_999, li_1000, li_2000, li_3000, li_9999, li_12345, li_65536, li_1000000, li_252645135, li_858993459, li_1103515245, li_1431655765]
    rfl
  · by_cases q2 : tp ≤ k
    · rw [if_neg (show ¬ k < min l tp by omega)]
      simp (disch := omega) only [gd_t, so_some, so_bind, so_gd, so_none, Option.bind_some, iI_add, iI_sub, iI_mul, iI_neg, iI_clamp, iI_nat, vin_i, iI_le, iI_lt, iI_eq, mn_i, mx_i, if_true, if_false, if_pos, if_neg, li_0, li_1, li_2, li_3, li_4, li_5, li_6, li_7, li_8, li_9, li_10, li_11, li_12, li_14, li_15, li_16, li_20, li_21, li_24, li_28, li_30, li_31, li_40, li_41, li_42, li_43, li_44, li_45, li_47, li_48, li_49, li_57, li_59, li_60, li_61, li_62, li_63, li_70, li_71, li_76, li_80, li_96, li_97, li_98, li_99, li_100, li_101, li_102, li_103, li_104, li_105, li_106, li_107, li_108, li_109, li_110, li_111, li_112, li_113, li_114, li_115, li_116, li_117, li_118, li_119, li_120, li_128, li_142, li_255, li_320, li_781, li_852, li_999, li_1000, li_2000, li_3000, li_9999, li_12345, li_65536, li_1000000, li_252645135, li_858993459, li_1103515245, li_1431655765]
      rfl
    · rw [if_pos (show k < min l tp by omega)]
      simp (disch := omega) only [gd_t, so_some, so_bind, so_gd, so_none, Option.bind_some, iI_add, iI_sub, iI_mul, iI_neg, iI_clamp, iI_nat, vin_i, iI_le, iI_lt, iI_eq, mn_i, mx_i, if_true, if_false, if_pos, if_neg, li_0, li_1, li_2, li_3, li_4, li_5, li_6, li_7, li_8, li_9, li_10, li_11, li_12, li_14, li_15, li_16, li_20, li_21, li_24, li_28, li_30, li_31, li_40, li_41, li_42, li_43, li_44, li_45, li_47, li_48, li_49, li_57, li_59, li_60, li_61, li_62, li_63, li_70, li_71, li_76, li_80, li_96, li_97, li_98, li_99, li_100, li_101, li_102, li_103, li_104, li_105, li_106, li_107, li_108, li_109, li_110, li_111, li_112, li_113, li_114, li_115, li_116, li_117, li_118, li_119, li_120, li_128, li_142, li_255, li_320, li_781, li_852, li_999, li_1000, li_2000, li_3000, li_9999, li_12345, li_65536, li_1000000, li_252645135, li_858993459, li_1103515245, li_1431655765, ha.at]
theorem m_passesL {n : Nat} {T : Int → Int} (hT : ∀ i, 0 ≤ T i ∧ T i ≤ 255) {l tp k c : Int} {a : Nat → Int32} (ha : Arr (min l tp) a (fun i => sb (T i))) (k0 : 0 ≤ k) (l0 : 0 ≤ l) (l1 : l ≤ 1000) (t0 : 0 ≤ tp) (t1 : tp ≤ 1000) (k1 : k < 1000) (hn : min l tp ≤ n) (n1 : n ≤ 1000) (c0 : 0 ≤ c) (c1 : c < 128) :
    fX12_passes n (iI l) (iI tp) (iI k) (iI (-1)) a (iI c) = if hk T (min l tp) k = c then some (iI 1, iI (k + 1)) else some (iI 0, iI k) := by
  have b := hk_b hT (min l tp) k
  have e := sb_c b.1 b.2 c0 c1
  unfold fX12_passes fX12_fine
  rw [m_hereL ha k0 l0 l1 t0 t1 k1 hn n1]
  by_cases q : hk T (min l tp) k = c
  · rw [if_pos q]
    simp (disch := omega) only [gd_t, so_some, so_bind, so_gd, so_none, Option.bind_some, iI_add, iI_sub, iI_mul, iI_neg, iI_clamp, iI_nat, vin_i, iI_le, iI_lt, iI_eq, mn_i, mx_i, if_true, if_false, if_pos, if_neg, li_0, li_1, li_2, li_3, li_4, li_5, li_6, li_7, li_8, li_9, li_10, li_11, li_12, li_14, li_15, li_16, li_20, li_21, li_24, li_28, li_30, li_31, li_40, li_41, li_42, li_43, li_44, li_45, li_47, li_48, li_49, li_57, li_59, li_60, li_61, li_62, li_63, li_70, li_71, li_76, li_80, li_96, li_97, li_98, li_99, li_100, li_101, li_102, li_103, li_104, li_105, li_106, li_107, li_108, li_109, li_110, li_111, li_112, li_113, li_114, li_115, li_116, li_117, li_118, li_119, li_120, li_128, li_142, li_255, li_320, li_781, li_852, li_999, li_1000, li_2000, li_3000, li_9999, li_12345, li_65536, li_1000000, li_252645135, li_858993459, li_1103515245, li_1431655765, e.2 q]
  · rw [if_neg q]
    have e2 : ¬ iI (sb (hk T (min l tp) k)) = iI c := fun z => q (e.1 z)
    simp (disch := omega) only [gd_t, so_some, so_bind, so_gd, so_none, Option.bind_some, iI_add, iI_sub, iI_mul, iI_neg, iI_clamp, iI_nat, vin_i, iI_le, iI_lt, iI_eq, mn_i, mx_i, if_true, if_false, if_pos, if_neg, li_0, li_1, li_2, li_3, li_4, li_5, li_6, li_7, li_8, li_9, li_10, li_11, li_12, li_14, li_15, li_16, li_20, li_21, li_24, li_28, li_30, li_31, li_40, li_41, li_42, li_43, li_44, li_45, li_47, li_48, li_49, li_57, li_59, li_60, li_61, li_62, li_63, li_70, li_71, li_76, li_80, li_96, li_97, li_98, li_99, li_100, li_101, li_102, li_103, li_104, li_105, li_106, li_107, li_108, li_109, li_110, li_111, li_112, li_113, li_114, li_115, li_116, li_117, li_118, li_119, li_120, li_128, li_142, li_255, li_320, li_781, li_852, li_999, li_1000, li_2000, li_3000, li_9999, li_12345, li_65536, li_1000000, li_252645135, li_858993459, li_1103515245, li_1431655765, e2]
def LtR (asked many d p n rf be lo : Int32) (hold weather : Nat → Int32) (T : Int → Int) : Prop :=
  ∀ ch j : Int, (ch = 100 ∧ j = 0) ∨ (ch = 112 ∧ j = 1) ∨ (ch = 116 ∧ j = 2) ∨ (ch = 111 ∧ j = 3) ∨ (ch = 110 ∧ j = 4) ∨ (ch = 120 ∧ j = 5) ∨ (ch = 104 ∧ j = 6) ∨ (ch = 98 ∧ j = 7) →
    ∀ k w : Int32, fX12_thing_J146 many asked d p n rf be lo hold weather (iI ch) k w = some (iI (T j), k + 1, w)
def CL (a : Nat → Int32) (m : Int) (tc : Nat) (cf d k : Int) (res : Int → (Nat → Int32) → (Int32 × Int32 × (Nat → Int32) × Int32) → Prop) : Prop :=
  ∀ (t : Nat) (D : Int) (draft : Nat → Int32), cf ≤ t → 0 ≤ D → D ≤ k → So (frul t tc (iI D) draft (iI k) (iI m) a (iI d)) (res D draft)
def MO (Tx : Int → Int) (l : Int) (tm : Nat) (mf d k : Int) (res : (Int → Int) → (Int32 × Int32 × Int32) → Prop) : Prop :=
  ∀ (t nb : Nat) (b : Nat → Int32) (asked many q1 q2 q3 q4 q5 q6 : Int32) (hold weather : Nat → Int32) (T : Int → Int), mf ≤ t → min l 40 ≤ nb → nb ≤ 1000 → Arr (min l 40) b (fun i => sb (Tx i)) → LtR asked many q1 q2 q3 q4 q5 q6 hold weather T →
    So (fhsp t tm nb many (iI l) (iI 40) (iI k) (iI (-1)) asked q1 q2 q3 q4 q5 q6 b hold weather (iI d)) (res T)
def PR (Tx : Int → Int) (a : Nat → Int32) (l : Int) (tc tm : Nat) (cf mf d k : Int) : Prop :=
  (∃ w : Int, 0 ≤ w ∧ w ≤ 100 ∧ CL a (min l 40) tc cf d k (fun _ _ o => o.1 = iI 0 ∧ o.2.2.2 = iI w ∧ ∃ D' : Int, 0 ≤ D' ∧ D' ≤ 1000 ∧ o.2.1 = iI D') ∧ MO Tx l tm mf d k (fun _ p => p.2.2 = iI w)) ∨
  (∃ (k' : Int) (c : List Int) (V : (Int → Int) → Int32), k < k' ∧ k' ≤ min l 40 ∧ (c.length : Int) ≤ k' - k ∧ Cd c V ∧ CL a (min l 40) tc cf d k (fun D draft o => o.1 = iI 1 ∧ o.2.1 = iI (D + c.length) ∧ o.2.2.2 = iI k' ∧ Lay D c draft o.2.2.1) ∧ MO Tx l tm mf d k (fun T p => p = (V T, iI k', iI (-1))))
