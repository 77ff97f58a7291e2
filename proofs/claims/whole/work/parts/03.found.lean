/-! whole numbers as the machine's ints -/
def iI (x : Int) : Int32 := Int32.ofInt x
theorem iI_toInt {x : Int} (h1 : -2147483648 ≤ x) (h2 : x < 2147483648) : (iI x).toInt = x := Int32.toInt_ofInt_of_le (by omega) (by omega)
theorem iI_of (x : Int32) : ∃ X : Int, x = iI X ∧ -2147483648 ≤ X ∧ X < 2147483648 :=
  ⟨x.toInt, (Int32.ofInt_toInt x).symm, by have := x.le_toInt; omega, by have := x.toInt_lt; omega⟩
theorem iI_add (a b : Int) : iI a + iI b = iI (a + b) := (Int32.ofInt_add a b).symm
theorem iI_sub (a b : Int) : iI a - iI b = iI (a - b) := (Int32.ofInt_sub a b).symm
theorem iI_mul (a b : Int) : iI a * iI b = iI (a * b) := (Int32.ofInt_mul a b).symm
theorem iI_neg (a : Int) : -iI a = iI (-a) := (Int32.ofInt_neg a).symm
theorem iI_le {a b : Int} (h1 : -2147483648 ≤ a) (h2 : a < 2147483648) (h3 : -2147483648 ≤ b) (h4 : b < 2147483648) : iI a ≤ iI b ↔ a ≤ b := by
  rw [Int32.le_iff_toInt_le, iI_toInt h1 h2, iI_toInt h3 h4]
theorem iI_lt {a b : Int} (h1 : -2147483648 ≤ a) (h2 : a < 2147483648) (h3 : -2147483648 ≤ b) (h4 : b < 2147483648) : iI a < iI b ↔ a < b := by
  rw [Int32.lt_iff_toInt_lt, iI_toInt h1 h2, iI_toInt h3 h4]
theorem iI_eq {a b : Int} (h1 : -2147483648 ≤ a) (h2 : a < 2147483648) (h3 : -2147483648 ≤ b) (h4 : b < 2147483648) : iI a = iI b ↔ a = b := by
  rw [← Int32.toInt_inj, iI_toInt h1 h2, iI_toInt h3 h4]
theorem iI_clamp {x : Int} (h1 : 0 ≤ x) (h2 : x < 2147483648) : (iI x).toNatClampNeg = x.toNat := Int32.toNatClampNeg_ofInt_of_le (by omega) (by omega)
theorem vin_i {x : Int} {n : Nat} (h0 : 0 ≤ x) (h1 : x < (n : Int)) (h2 : x < 2147483648) : vin (iI x) n = true := by
  simp only [vin, Bool.and_eq_true, decide_eq_true_eq, iI_clamp h0 h2]
  constructor
  · rw [show (0 : Int32) = iI 0 from rfl, iI_lt (by omega) (by omega) (by omega) (by omega)]
    omega
  · omega
theorem gd_t {α : Type} (k : Option α) : gd true k = k := rfl
theorem mn_i {a b : Int} (h1 : -2147483648 ≤ a) (h2 : a < 2147483648) (h3 : -2147483648 ≤ b) (h4 : b < 2147483648) : mn (iI a) (iI b) = iI (min a b) := by
  unfold mn
  by_cases h : b < a
  · rw [if_pos ((iI_lt h3 h4 h1 h2).2 h)]; congr 1; omega
  · rw [if_neg (fun q => h ((iI_lt h3 h4 h1 h2).1 q))]; congr 1; omega
theorem mx_i {a b : Int} (h1 : -2147483648 ≤ a) (h2 : a < 2147483648) (h3 : -2147483648 ≤ b) (h4 : b < 2147483648) : mx (iI a) (iI b) = iI (max a b) := by
  unfold mx
  by_cases h : a < b
  · rw [if_pos ((iI_lt h1 h2 h3 h4).2 h)]; congr 1; omega
  · rw [if_neg (fun q => h ((iI_lt h1 h2 h3 h4).1 q))]; congr 1; omega
theorem iI_div {a b : Int} (h1 : 0 ≤ a) (h2 : a < 2147483648) (h3 : 0 < b) (h4 : b < 2147483648) : iI a / iI b = iI (a / b) := by
  apply Int32.toInt_inj.mp
  have h5 : a / b ≤ a := Int.ediv_le_self b h1
  have h6 : 0 ≤ a / b := Int.ediv_nonneg h1 (by omega)
  rw [Int32.toInt_div, iI_toInt (by omega) h2, iI_toInt (by omega) h4, iI_toInt (by omega) (by omega), Int.tdiv_eq_ediv_of_nonneg h1]
  apply Int.bmod_eq_of_le <;> omega
theorem iI_div2 {a : Int} (h1 : 0 ≤ a) (h2 : a < 2147483648) : iI a / iI 2 = iI (a / 2) := iI_div h1 h2 (by omega) (by omega)
theorem iI_rem {a b : Int} (h1 : 0 ≤ a) (h2 : a < 2147483648) (h3 : 0 < b) (h4 : b < 2147483648) : rem (iI a) (iI b) = iI (a % b) := by
  unfold rem
  rw [iI_div h1 h2 h3 h4, iI_mul, iI_sub]
  congr 1
  have := Int.mul_ediv_add_emod a b
  rw [Int.mul_comm] at this
  omega
theorem nz_i {a : Int} (h1 : a ≠ 0) (h2 : -2147483648 ≤ a) (h3 : a < 2147483648) : nz (iI a) = true := by
  refine decide_eq_true ?_
  rw [show (0 : Int32) = iI 0 from rfl, iI_eq h2 h3 (by omega) (by omega)]
  exact h1
theorem iI_nat (n : Nat) : Int32.ofNat n = iI n := Int32.ofInt_eq_ofNat.symm
theorem isb_0 : isb (iI 0) = true := rfl
theorem isb_1 : isb (iI 1) = true := rfl
theorem li_0 : (0 : Int32) = iI 0 := rfl
theorem li_1 : (1 : Int32) = iI 1 := rfl
theorem li_2 : (2 : Int32) = iI 2 := rfl
theorem li_3 : (3 : Int32) = iI 3 := rfl
theorem li_4 : (4 : Int32) = iI 4 := rfl
theorem li_5 : (5 : Int32) = iI 5 := rfl
theorem li_6 : (6 : Int32) = iI 6 := rfl
theorem li_7 : (7 : Int32) = iI 7 := rfl
theorem li_8 : (8 : Int32) = iI 8 := rfl
theorem li_9 : (9 : Int32) = iI 9 := rfl
theorem li_10 : (10 : Int32) = iI 10 := rfl
theorem li_11 : (11 : Int32) = iI 11 := rfl
theorem li_12 : (12 : Int32) = iI 12 := rfl
theorem li_14 : (14 : Int32) = iI 14 := rfl
theorem li_15 : (15 : Int32) = iI 15 := rfl
theorem li_16 : (16 : Int32) = iI 16 := rfl
theorem li_20 : (20 : Int32) = iI 20 := rfl
theorem li_21 : (21 : Int32) = iI 21 := rfl
theorem li_24 : (24 : Int32) = iI 24 := rfl
theorem li_28 : (28 : Int32) = iI 28 := rfl
theorem li_30 : (30 : Int32) = iI 30 := rfl
theorem li_31 : (31 : Int32) = iI 31 := rfl
theorem li_40 : (40 : Int32) = iI 40 := rfl
theorem li_41 : (41 : Int32) = iI 41 := rfl
theorem li_42 : (42 : Int32) = iI 42 := rfl
theorem li_43 : (43 : Int32) = iI 43 := rfl
theorem li_44 : (44 : Int32) = iI 44 := rfl
theorem li_45 : (45 : Int32) = iI 45 := rfl
theorem li_47 : (47 : Int32) = iI 47 := rfl
theorem li_48 : (48 : Int32) = iI 48 := rfl
theorem li_49 : (49 : Int32) = iI 49 := rfl
theorem li_57 : (57 : Int32) = iI 57 := rfl
theorem li_59 : (59 : Int32) = iI 59 := rfl
theorem li_60 : (60 : Int32) = iI 60 := rfl
theorem li_61 : (61 : Int32) = iI 61 := rfl
theorem li_62 : (62 : Int32) = iI 62 := rfl
theorem li_63 : (63 : Int32) = iI 63 := rfl
theorem li_70 : (70 : Int32) = iI 70 := rfl
theorem li_71 : (71 : Int32) = iI 71 := rfl
theorem li_76 : (76 : Int32) = iI 76 := rfl
theorem li_80 : (80 : Int32) = iI 80 := rfl
theorem li_96 : (96 : Int32) = iI 96 := rfl
theorem li_97 : (97 : Int32) = iI 97 := rfl
theorem li_98 : (98 : Int32) = iI 98 := rfl
theorem li_99 : (99 : Int32) = iI 99 := rfl
theorem li_100 : (100 : Int32) = iI 100 := rfl
theorem li_101 : (101 : Int32) = iI 101 := rfl
theorem li_102 : (102 : Int32) = iI 102 := rfl
theorem li_103 : (103 : Int32) = iI 103 := rfl
theorem li_104 : (104 : Int32) = iI 104 := rfl
theorem li_105 : (105 : Int32) = iI 105 := rfl
theorem li_106 : (106 : Int32) = iI 106 := rfl
theorem li_107 : (107 : Int32) = iI 107 := rfl
theorem li_108 : (108 : Int32) = iI 108 := rfl
theorem li_109 : (109 : Int32) = iI 109 := rfl
theorem li_110 : (110 : Int32) = iI 110 := rfl
theorem li_111 : (111 : Int32) = iI 111 := rfl
theorem li_112 : (112 : Int32) = iI 112 := rfl
theorem li_113 : (113 : Int32) = iI 113 := rfl
theorem li_114 : (114 : Int32) = iI 114 := rfl
theorem li_115 : (115 : Int32) = iI 115 := rfl
theorem li_116 : (116 : Int32) = iI 116 := rfl
theorem li_117 : (117 : Int32) = iI 117 := rfl
theorem li_118 : (118 : Int32) = iI 118 := rfl
theorem li_119 : (119 : Int32) = iI 119 := rfl
theorem li_120 : (120 : Int32) = iI 120 := rfl
theorem li_128 : (128 : Int32) = iI 128 := rfl
theorem li_142 : (142 : Int32) = iI 142 := rfl
theorem li_255 : (255 : Int32) = iI 255 := rfl
theorem li_320 : (320 : Int32) = iI 320 := rfl
theorem li_781 : (781 : Int32) = iI 781 := rfl
theorem li_852 : (852 : Int32) = iI 852 := rfl
theorem li_999 : (999 : Int32) = iI 999 := rfl
theorem li_1000 : (1000 : Int32) = iI 1000 := rfl
theorem li_2000 : (2000 : Int32) = iI 2000 := rfl
theorem li_3000 : (3000 : Int32) = iI 3000 := rfl
theorem li_9999 : (9999 : Int32) = iI 9999 := rfl
theorem li_12345 : (12345 : Int32) = iI 12345 := rfl
theorem li_65536 : (65536 : Int32) = iI 65536 := rfl
theorem li_1000000 : (1000000 : Int32) = iI 1000000 := rfl
theorem li_252645135 : (252645135 : Int32) = iI 252645135 := rfl
theorem li_858993459 : (858993459 : Int32) = iI 858993459 := rfl
theorem li_1103515245 : (1103515245 : Int32) = iI 1103515245 := rfl
theorem li_1431655765 : (1431655765 : Int32) = iI 1431655765 := rfl
/-! it answers, and the answer is so -/
def So {α : Type} (x : Option α) (P : α → Prop) : Prop := ∃ o, x = some o ∧ P o
theorem so_some {α : Type} (o : α) (P : α → Prop) : So (some o) P ↔ P o :=
  ⟨fun h => (by obtain ⟨_, h, p⟩ := h; cases h; exact p), fun p => ⟨o, rfl, p⟩⟩
theorem so_none {α : Type} (P : α → Prop) : So (none : Option α) P ↔ False :=
  ⟨fun h => (by obtain ⟨_, h, _⟩ := h; cases h), fun h => h.elim⟩
theorem so_bind {α β : Type} (x : Option α) (f : α → Option β) (P : β → Prop) : So (x.bind f) P ↔ So x (fun o => So (f o) P) := by
  constructor
  · rintro ⟨o, h, p⟩
    obtain ⟨a, h1, h2⟩ := bd_some h
    exact ⟨a, h1, o, h2, p⟩
  · rintro ⟨a, h1, o, h2, p⟩
    refine ⟨o, ?_, p⟩
    rw [h1]
    exact h2
theorem so_gd {α : Type} {b : Bool} (h : b = true) (k : Option α) (P : α → Prop) : So (gd b k) P ↔ So k P := by rw [h, gd_t]
theorem so_mono {α : Type} {x : Option α} {P Q : α → Prop} (h : So x P) (g : ∀ o, P o → Q o) : So x Q := by
  obtain ⟨o, h1, h2⟩ := h
  exact ⟨o, h1, g o h2⟩
theorem so_eq {α : Type} {x : Option α} {P : α → Prop} (h : So x P) : ∃ o, x = some o ∧ P o := h
theorem so_ite {α : Type} {c : Prop} [Decidable c] {x y : Option α} {P : α → Prop} (h1 : c → So x P) (h2 : ¬ c → So y P) : So (if c then x else y) P := by
  by_cases h : c
  · rw [if_pos h]; exact h1 h
  · rw [if_neg h]; exact h2 h
/-! rows of numbers -/
def Arr (n : Int) (a : Nat → Int32) (A : Int → Int) : Prop := ∀ x : Int, 0 ≤ x → x < n → a x.toNat = iI (A x)
theorem Arr.at {n : Int} {a : Nat → Int32} {A : Int → Int} (h : Arr n a A) {x : Int} (h0 : 0 ≤ x) (h1 : x < n) : a x.toNat = iI (A x) := h x h0 h1
def upI (A : Int → Int) (k v : Int) : Int → Int := fun i => if i = k then v else A i
theorem upI_s (A : Int → Int) (k v : Int) : upI A k v k = v := if_pos rfl
theorem upI_o (A : Int → Int) {k v i : Int} (h : i ≠ k) : upI A k v i = A i := if_neg h
theorem Arr.up {n : Int} {a : Nat → Int32} {A : Int → Int} (h : Arr n a A) {k : Int} (v : Int) (hk : 0 ≤ k) : Arr n (upd a k.toNat (iI v)) (upI A k v) := by
  intro x h0 h1
  by_cases hx : x = k
  · subst hx
    rw [upI_s]
    simp [upd]
  · rw [upI_o A hx, ← h.at h0 h1]
    have : x.toNat ≠ k.toNat := by omega
    simp [upd, this]
theorem Arr.congr {n : Int} {a : Nat → Int32} {A B : Int → Int} (h : Arr n a A) (g : ∀ x, 0 ≤ x → x < n → A x = B x) : Arr n a B := fun x h0 h1 => by
  rw [h.at h0 h1, g x h0 h1]
theorem Arr.cp {n : Nat} {f g : Nat → Int32} {F : Int → Int} (h : Arr n f F) : Arr n (cpy n f g) F := fun x h0 h1 => by
  have : x.toNat < n := by omega
  rw [cpy, if_pos this]
  exact h.at h0 h1
theorem Arr.le {n m : Int} {a : Nat → Int32} {A : Int → Int} (h : Arr n a A) (hm : m ≤ n) : Arr m a A := fun x h0 h1 => h.at h0 (by omega)
/-! fills and sums -/
theorem fill_L {n : Nat} {v : Int} (hn : n < 4000) : ∀ (m : Nat) (k : Int) (f : Nat) (a : Nat → Int32) (A : Int → Int), 0 ≤ k → k + m = n → m < f → Arr n a A →
    So (fJ7_fill_53178_L5 n (iI v) (iI n) f (iI k) a) (fun o => Arr n o (fun i => if k ≤ i then v else A i))
  | 0, k, f + 1, a, A, h0, hk, hf, ha => by
    rw [fJ7_fill_53178_L5]
    simp (disch := omega) only [gd_t, so_some, so_bind, so_gd, so_none, Option.bind_some, iI_add, iI_sub, iI_mul, iI_neg, iI_clamp, iI_nat, vin_i, iI_le, iI_lt, iI_eq, mn_i, mx_i, if_true, if_false, if_pos, if_neg, li_0, li_1, li_2, li_3, li_4, li_5, li_6, li_7, li_8, li_9, li_10, li_11, li_12, li_14, li_15, li_16, li_20, li_21, li_24, li_28, li_30, li_31, li_40, li_41, li_42, li_43, li_44, li_45, li_47, li_48, li_49, li_57, li_59, li_60, li_61, li_62, li_63, li_70, li_71, li_76, li_80, li_96, li_97, li_98, li_99, li_100, li_101, li_102, li_103, li_104, li_105, li_106, li_107, li_108, li_109, li_110, li_111, li_112, li_113, li_114, li_115, li_116, li_117, li_118, li_119, li_120, li_128, li_142, li_255, li_320, li_781, li_852, li_999, li_1000, li_2000, li_3000, li_9999, li_12345, li_65536, li_1000000, li_252645135, li_858993459, li_1103515245, li_1431655765]
    exact ha.congr (fun x h0 h1 => by first | rw [if_neg (by omega)] | rfl)
  | m + 1, k, f + 1, a, A, h0, hk, hf, ha => by
    rw [fJ7_fill_53178_L5]
    simp (disch := omega) only [gd_t, so_some, so_bind, so_gd, so_none, Option.bind_some, iI_add, iI_sub, iI_mul, iI_neg, iI_clamp, iI_nat, vin_i, iI_le, iI_lt, iI_eq, mn_i, mx_i, if_true, if_false, if_pos, if_neg, li_0, li_1, li_2, li_3, li_4, li_5, li_6, li_7, li_8, li_9, li_10, li_11, li_12, li_14, li_15, li_16, li_20, li_21, li_24, li_28, li_30, li_31, li_40, li_41, li_42, li_43, li_44, li_45, li_47, li_48, li_49, li_57, li_59, li_60, li_61, li_62, li_63, li_70, li_71, li_76, li_80, li_96, li_97, li_98, li_99, li_100, li_101, li_102, li_103, li_104, li_105, li_106, li_107, li_108, li_109, li_110, li_111, li_112, li_113, li_114, li_115, li_116, li_117, li_118, li_119, li_120, li_128, li_142, li_255, li_320, li_781, li_852, li_999, li_1000, li_2000, li_3000, li_9999, li_12345, li_65536, li_1000000, li_252645135, li_858993459, li_1103515245, li_1431655765]
    refine so_mono (fill_L hn m (k + 1) f _ _ (by omega) (by omega) (by omega) (ha.up v h0)) ?_
    intro o ho
    refine ho.congr (fun x h0 h1 => ?_)
    by_cases hx : x = k
    · subst hx
      rw [if_neg (by omega), if_pos (by omega), upI_s]
    · by_cases h2 : k + 1 ≤ x
      · rw [if_pos h2, if_pos (by omega)]
      · rw [if_neg h2, if_neg (by omega), upI_o A hx]
theorem t_fill {n : Nat} (hn : n < 4000) (v : Int) (a : Nat → Int32) : So (fJ7_fill_53178 n a (iI v)) (fun o => Arr n o (fun _ => v)) := by
  have ha : Arr n a (fun x => (a x.toNat).toInt) := fun x _ _ => (Int32.ofInt_toInt _).symm
  have h := fill_L (v := v) hn n 0 FU a _ (by omega) (by omega) (show n < 4000 from hn) ha
  unfold fJ7_fill_53178
  rw [so_bind, iI_nat, li_0]
  refine so_mono h ?_
  intro o ho
  rw [so_some]
  exact ho.congr (fun x h0 h1 => if_pos h0)
/-- the sum of m, from k on -/
def sI (A : Int → Int) : Nat → Int → Int
  | 0, _ => 0
  | m + 1, k => A k + sI A m (k + 1)
theorem sumOf_L {n : Nat} (hn : n < 4000) : ∀ (m : Nat) (k : Int) (f : Nat) (a : Nat → Int32) (A : Int → Int) (s : Int), 0 ≤ k → k + m = n → m < f → Arr n a A →
    fX5_sumOf_L10 n a (iI n) f (iI s) (iI k) = some (iI (s + sI A m k))
  | 0, k, f + 1, a, A, s, h0, hk, hf, ha => by
    rw [fX5_sumOf_L10]
    simp (disch := omega) only [gd_t, so_some, so_bind, so_gd, so_none, Option.bind_some, iI_add, iI_sub, iI_mul, iI_neg, iI_clamp, iI_nat, vin_i, iI_le, iI_lt, iI_eq, mn_i, mx_i, if_true, if_false, if_pos, if_neg, li_0, li_1, li_2, li_3, li_4, li_5, li_6, li_7, li_8, li_9, li_10, li_11, li_12, li_14, li_15, li_16, li_20, li_21, li_24, li_28, li_30, li_31, li_40, li_41, li_42, li_43, li_44, li_45, li_47, li_48, li_49, li_57, li_59, li_60, li_61, li_62, li_63, li_70, li_71, li_76, li_80, li_96, li_97, li_98, li_99, li_100, li_101, li_102, li_103, li_104, li_105, li_106, li_107, li_108, li_109, li_110, li_111, li_112, li_113, li_114, li_115, li_116, li_117, li_118, li_119, li_120, li_128, li_142, li_255, li_320, li_781, li_852, li_999, li_1000, li_2000, li_3000, li_9999, li_12345, li_65536, li_1000000, li_252645135, li_858993459, li_1103515245, li_1431655765, sI, Int.add_zero]
  | m + 1, k, f + 1, a, A, s, h0, hk, hf, ha => by
    rw [fX5_sumOf_L10]
    simp (disch := omega) only [gd_t, so_some, so_bind, so_gd, so_none, Option.bind_some, iI_add, iI_sub, iI_mul, iI_neg, iI_clamp, iI_nat, vin_i, iI_le, iI_lt, iI_eq, mn_i, mx_i, if_true, if_false, if_pos, if_neg, li_0, li_1, li_2, li_3, li_4, li_5, li_6, li_7, li_8, li_9, li_10, li_11, li_12, li_14, li_15, li_16, li_20, li_21, li_24, li_28, li_30, li_31, li_40, li_41, li_42, li_43, li_44, li_45, li_47, li_48, li_49, li_57, li_59, li_60, li_61, li_62, li_63, li_70, li_71, li_76, li_80, li_96, li_97, li_98, li_99, li_100, li_101, li_102, li_103, li_104, li_105, li_106, li_107, li_108, li_109, li_110, li_111, li_112, li_113, li_114, li_115, li_116, li_117, li_118, li_119, li_120, li_128, li_142, li_255, li_320, li_781, li_852, li_999, li_1000, li_2000, li_3000, li_9999, li_12345, li_65536, li_1000000, li_252645135, li_858993459, li_1103515245, li_1431655765, ha.at]
    rw [sumOf_L hn m (k + 1) f a A (s + A k) (by omega) (by omega) (by omega) ha, sI, Int.add_assoc]
theorem t_sumOf {n : Nat} (hn : n < 4000) {a : Nat → Int32} {A : Int → Int} (ha : Arr n a A) : fX5_sumOf n a = some (iI (sI A n 0)) := by
  have h := sumOf_L hn n 0 FU a A 0 (by omega) (by omega) (show n < 4000 from hn) ha
  rw [Int.zero_add] at h
  unfold fX5_sumOf
  rw [iI_nat, li_0, h]
  rfl
