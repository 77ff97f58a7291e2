/-! bits -/
def bt (x : Int32) (j : Nat) : Bool := x.toBitVec.getLsbD j
theorem bt_or (x y : Int32) (j : Nat) : bt (x ||| y) j = (bt x j || bt y j) := by
  unfold bt
  rw [Int32.toBitVec_or, BitVec.getLsbD_or]
theorem bt_one_d : ∀ k j : Fin 32, bt (1 <<< (iI (k.val : Int) &&& 31)) j.val = decide (j.val = k.val) := by decide
theorem bt_one {k : Int} (k0 : 0 ≤ k) (k1 : k < 32) {j : Nat} (j1 : j < 32) : bt (1 <<< (iI k &&& 31)) j = decide ((j : Int) = k) := by
  have h := bt_one_d ⟨k.toNat, by omega⟩ ⟨j, j1⟩
  have e : ((k.toNat : Nat) : Int) = k := by omega
  rw [e] at h
  rw [h]
  by_cases q : (j : Int) = k
  · rw [decide_eq_true q, decide_eq_true (show j = k.toNat by omega)]
  · rw [decide_eq_false q, decide_eq_false (show ¬ j = k.toNat by omega)]
theorem bt_hi (x : Int32) {j : Nat} (h : 32 ≤ j) : bt x j = false := by
  unfold bt
  exact BitVec.getLsbD_of_ge _ _ h
theorem bt_0 (j : Nat) : bt 0 j = false := by
  unfold bt
  show (0#32).getLsbD j = false
  exact BitVec.getLsbD_zero
theorem bt_ext {x y : Int32} (h : ∀ j, j < 32 → bt x j = bt y j) : x = y := Int32.toBitVec_inj.1 (BitVec.eq_of_getLsbD_eq (fun j hj => h j hj))
theorem sh_n {s : Int} (s0 : 0 ≤ s) (s1 : s < 32) : ((iI s &&& 31).toBitVec.smod 32).toNat = s.toNat := by
  have h : ∀ t : Fin 32, ((iI (t.val : Int) &&& 31).toBitVec.smod 32).toNat = t.val := by decide
  have := h ⟨s.toNat, by omega⟩
  rw [show ((⟨s.toNat, by omega⟩ : Fin 32).val : Int) = s by show ((s.toNat : Nat) : Int) = s; omega] at this
  exact this
theorem bt_test (x : Int32) {s : Int} (s0 : 0 ≤ s) (s1 : s < 32) : ((x >>> (iI s &&& 31)) &&& 1) = if bt x s.toNat = true then iI 1 else iI 0 := by
  apply Int32.toBitVec_inj.1
  have e : (x >>> (iI s &&& 31)).toBitVec = x.toBitVec.sshiftRight s.toNat := by
    show x.toBitVec.sshiftRight' ((iI s &&& 31).toBitVec.smod 32) = _
    rw [BitVec.sshiftRight_eq', sh_n s0 s1]
  rw [Int32.toBitVec_and, e]
  show x.toBitVec.sshiftRight s.toNat &&& 1#32 = _
  rw [BitVec.and_one_eq_setWidth_ofBool_getLsbD, BitVec.getLsbD_sshiftRight]
  have q : s.toNat < 32 := by omega
  rw [Nat.add_zero, if_pos q, show (decide (32 ≤ 0)) = false from rfl]
  show BitVec.setWidth 32 (BitVec.ofBool (!false && bt x s.toNat)) = _
  cases bt x s.toNat
  · rfl
  · rfl
def pcS (x : Int32) : Int := sI (fun j => if bt x j.toNat = true then 1 else 0) 14 0
def b1N (x : Nat) : Nat := x - ((x >>> 1) &&& 1431655765)
def b2N (y : Nat) : Nat := (y &&& 858993459) + ((y >>> 2) &&& 858993459)
def b3N (z : Nat) : Nat := (z + (z >>> 4)) &&& 252645135
def b4N (w : Nat) : Nat := w + (w >>> 8)
def b5N (v : Nat) : Nat := (v + (v >>> 16)) &&& 63
def pcN (n : Nat) : Nat := n / 1 % 2 + n / 2 % 2 + n / 4 % 2 + n / 8 % 2 + n / 16 % 2 + n / 32 % 2 + n / 64 % 2 + n / 128 % 2 + n / 256 % 2 + n / 512 % 2 + n / 1024 % 2 + n / 2048 % 2 + n / 4096 % 2 + n / 8192 % 2
theorem bc_d : ∀ a b : Fin 128, b5N (b4N (b3N (b2N (b1N (a.val + 128 * b.val))))) = pcN (a.val + 128 * b.val) := by decide +kernel
theorem iI_tn {n : Nat} (h : n < 4294967296) : (iI (n : Int)).toBitVec = BitVec.ofNat 32 n := by
  apply BitVec.eq_of_toNat_eq
  show (BitVec.ofInt 32 _).toNat = _
  rw [BitVec.toNat_ofInt, BitVec.toNat_ofNat]
  omega
theorem ush_i {n s : Nat} (h : n < 2147483648) (hs : s < 32) : ush (iI (n : Int)) (iI (s : Int)) = iI ((n >>> s : Nat) : Int) := by
  apply Int32.toBitVec_inj.1
  have q : n >>> s ≤ n := by rw [Nat.shiftRight_eq_div_pow]; exact Nat.div_le_self _ _
  rw [ush_n _ _ hs, iI_tn (by omega), iI_tn (by omega)]
  apply BitVec.eq_of_toNat_eq
  rw [BitVec.toNat_ushiftRight, BitVec.toNat_ofNat, BitVec.toNat_ofNat, Nat.mod_eq_of_lt (show n < 2 ^ 32 by omega), Nat.mod_eq_of_lt (show n >>> s < 2 ^ 32 by omega)]
theorem and_i {a b : Nat} (ha : a < 2147483648) (hb : b < 2147483648) : (iI (a : Int) &&& iI (b : Int)) = iI ((a &&& b : Nat) : Int) := by
  apply Int32.toBitVec_inj.1
  have q : a &&& b ≤ a := Nat.and_le_left
  rw [Int32.toBitVec_and, iI_tn (by omega), iI_tn (by omega), iI_tn (by omega)]
  apply BitVec.eq_of_toNat_eq
  rw [BitVec.toNat_and, BitVec.toNat_ofNat, BitVec.toNat_ofNat, BitVec.toNat_ofNat, Nat.mod_eq_of_lt (show a < 2 ^ 32 by omega), Nat.mod_eq_of_lt (show b < 2 ^ 32 by omega), Nat.mod_eq_of_lt (show a &&& b < 2 ^ 32 by omega)]
theorem sr_le (n s : Nat) : n >>> s ≤ n := by rw [Nat.shiftRight_eq_div_pow]; exact Nat.div_le_self _ _
theorem b1_i {x : Nat} (h : x < 16384) : iI (x : Int) - (ush (iI (x : Int)) 1 &&& 1431655765) = iI ((b1N x : Nat) : Int) ∧ b1N x < 16384 := by
  have q := sr_le x 1
  have q2 : (x >>> 1) &&& 1431655765 ≤ x >>> 1 := Nat.and_le_left
  have e := ush_i (n := x) (s := 1) (by omega) (by omega)
  have e2 := and_i (a := x >>> 1) (b := 1431655765) (by omega) (by omega)
  refine ⟨?_, by unfold b1N; omega⟩
  show iI (x : Int) - (ush (iI (x : Int)) (iI ((1 : Nat) : Int)) &&& iI ((1431655765 : Nat) : Int)) = _
  rw [e, e2, iI_sub]
  unfold b1N
  congr 1
  omega
theorem b2_i {y : Nat} (h : y < 16384) : (iI (y : Int) &&& 858993459) + (ush (iI (y : Int)) 2 &&& 858993459) = iI ((b2N y : Nat) : Int) ∧ b2N y < 32768 := by
  have q := sr_le y 2
  have q2 : (y >>> 2) &&& 858993459 ≤ y >>> 2 := Nat.and_le_left
  have q3 : y &&& 858993459 ≤ y := Nat.and_le_left
  have e := ush_i (n := y) (s := 2) (by omega) (by omega)
  have e2 := and_i (a := y >>> 2) (b := 858993459) (by omega) (by omega)
  have e3 := and_i (a := y) (b := 858993459) (by omega) (by omega)
  refine ⟨?_, by unfold b2N; omega⟩
  show (iI (y : Int) &&& iI ((858993459 : Nat) : Int)) + (ush (iI (y : Int)) (iI ((2 : Nat) : Int)) &&& iI ((858993459 : Nat) : Int)) = _
  rw [e, e2, e3, iI_add]
  unfold b2N
  congr 1
theorem b3_i {z : Nat} (h : z < 32768) : (iI (z : Int) + ush (iI (z : Int)) 4) &&& 252645135 = iI ((b3N z : Nat) : Int) ∧ b3N z < 65536 := by
  have q := sr_le z 4
  have q2 : (z + z >>> 4) &&& 252645135 ≤ z + z >>> 4 := Nat.and_le_left
  have e := ush_i (n := z) (s := 4) (by omega) (by omega)
  have e2 := and_i (a := z + z >>> 4) (b := 252645135) (by omega) (by omega)
  refine ⟨?_, by unfold b3N; omega⟩
  show (iI (z : Int) + ush (iI (z : Int)) (iI ((4 : Nat) : Int))) &&& iI ((252645135 : Nat) : Int) = _
  rw [e, iI_add, ← Int.natCast_add, e2]
  rfl
theorem b4_i {w : Nat} (h : w < 65536) : iI (w : Int) + ush (iI (w : Int)) 8 = iI ((b4N w : Nat) : Int) ∧ b4N w < 131072 := by
  have q := sr_le w 8
  have e := ush_i (n := w) (s := 8) (by omega) (by omega)
  refine ⟨?_, by unfold b4N; omega⟩
  show iI (w : Int) + ush (iI (w : Int)) (iI ((8 : Nat) : Int)) = _
  rw [e, iI_add, ← Int.natCast_add]
  rfl
theorem b5_i {v : Nat} (h : v < 131072) : (iI (v : Int) + ush (iI (v : Int)) 16) &&& 63 = iI ((b5N v : Nat) : Int) := by
  have q := sr_le v 16
  have e := ush_i (n := v) (s := 16) (by omega) (by omega)
  have e2 := and_i (a := v + v >>> 16) (b := 63) (by omega) (by omega)
  show (iI (v : Int) + ush (iI (v : Int)) (iI ((16 : Nat) : Int))) &&& iI ((63 : Nat) : Int) = _
  rw [e, iI_add, ← Int.natCast_add, e2]
  rfl
theorem bt_n {n : Nat} (h : n < 4294967296) (j : Nat) : bt (iI (n : Int)) j = decide (n / 2 ^ j % 2 = 1) := by
  unfold bt
  rw [iI_tn h]
  show (BitVec.ofNat 32 n).toNat.testBit j = _
  rw [BitVec.toNat_ofNat, Nat.mod_eq_of_lt (show n < 2 ^ 32 by omega), Nat.testBit_eq_decide_div_mod_eq]
theorem pc_b {n : Nat} (h : n < 4294967296) (j : Nat) : (if bt (iI (n : Int)) j = true then (1 : Int) else 0) = ((n / 2 ^ j % 2 : Nat) : Int) := by
  rw [bt_n h j]
  by_cases q : n / 2 ^ j % 2 = 1
  · rw [decide_eq_true q, if_pos rfl, q]; rfl
  · rw [decide_eq_false q, if_neg (by decide)]
    omega
theorem bitC {n : Nat} (h : n < 16384) : fJ6_bitCount_0f7a4 (iI (n : Int)) = some (iI (pcS (iI (n : Int)))) := by
  have e1 := b1_i h
  have e2 := b2_i e1.2
  have e3 := b3_i e2.2
  have e4 := b4_i e3.2
  have e5 := b5_i e4.2
  unfold fJ6_bitCount_0f7a4
  rw [e1.1, e2.1, e3.1, e4.1, e5]
  have d := bc_d ⟨n % 128, by omega⟩ ⟨n / 128, by omega⟩
  dsimp only at d
  rw [show n % 128 + 128 * (n / 128) = n by omega] at d
  rw [d]
  unfold pcS
  simp only [sI, Int.zero_add, Int.reduceAdd, Int.add_zero, Int.reduceToNat, Int.toNat_zero, pc_b (show n < 4294967296 by omega), Nat.reducePow]
  unfold pcN
  congr 2
  omega
theorem bitC_of {x : Int32} (h : ∀ j, 14 ≤ j → bt x j = false) : fJ6_bitCount_0f7a4 x = some (iI (pcS x)) := by
  have q : x.toBitVec.toNat < 2 ^ 14 := Nat.lt_pow_two_of_testBit _ (fun j hj => h j hj)
  have e : x = iI ((x.toBitVec.toNat : Nat) : Int) := by
    apply Int32.toBitVec_inj.1
    rw [iI_tn (by omega)]
    apply BitVec.eq_of_toNat_eq
    rw [BitVec.toNat_ofNat, Nat.mod_eq_of_lt (by omega)]
  rw [e]
  exact bitC (by omega)
/-- which sides slide, by bits -/
theorem bt_bts {E : EN} {th : Int} {A : Int → Int} : ∀ (m : Nat) (k : Int) (b : Int32) (j : Nat), 0 ≤ k → k + m ≤ 32 → j < 32 →
    bt (bts E th A m k b) j = (bt b j || decide (k ≤ (j : Int) ∧ (j : Int) < k + m ∧ ¬ A j ≤ max 0 (E.2.1 ((j : Int) / 2) - th)))
  | 0, k, b, j, k0, hk, hj => by
    rw [bts, decide_eq_false (by omega), Bool.or_false]
  | m + 1, k, b, j, k0, hk, hj => by
    rw [bts, bt_bts m (k + 1) _ j (by omega) (by omega) hj]
    by_cases q : A k ≤ max 0 (E.2.1 (k / 2) - th)
    · rw [if_pos q]
      congr 1
      by_cases w : (j : Int) = k
      · rw [decide_eq_false (by omega), decide_eq_false (by rw [w]; exact fun z => z.2.2 q)]
      · apply decide_eq_decide.2
        constructor
        · exact fun z => ⟨by omega, by omega, z.2.2⟩
        · exact fun z => ⟨by omega, by omega, z.2.2⟩
    · rw [if_neg q, bt_or, bt_one k0 (by omega) hj, Bool.or_assoc]
      congr 1
      by_cases w : (j : Int) = k
      · rw [decide_eq_true w, Bool.true_or, decide_eq_true]
        rw [w]
        exact ⟨by omega, by omega, q⟩
      · rw [decide_eq_false w, Bool.false_or]
        apply decide_eq_decide.2
        constructor
        · exact fun z => ⟨by omega, by omega, z.2.2⟩
        · exact fun z => ⟨by omega, by omega, z.2.2⟩
theorem cnt_sI (E : EN) (th : Int) (A : Int → Int) : ∀ (m : Nat) (k : Int), cnt E th A m k = sI (fun j => if A j ≤ max 0 (E.2.1 (j / 2) - th) then 0 else 1) m k
  | 0, _ => rfl
  | m + 1, k => by rw [cnt, sI, cnt_sI E th A m (k + 1)]
theorem bts_cnt {E : EN} {th : Int} {A : Int → Int} (h0 : 0 ≤ E.1) (h7 : E.1 ≤ 7) : fJ6_bitCount_0f7a4 (bts E th A (2 * E.1).toNat 0 0) = some (iI (cnt E th A (2 * E.1).toNat 0)) := by
  have hb : ∀ j, j < 32 → bt (bts E th A (2 * E.1).toNat 0 0) j = decide ((j : Int) < 2 * E.1 ∧ ¬ A j ≤ max 0 (E.2.1 ((j : Int) / 2) - th)) := by
    intro j hj
    rw [bt_bts _ _ _ _ (by omega) (by omega) hj, bt_0, Bool.false_or]
    apply decide_eq_decide.2
    constructor
    · exact fun z => ⟨by omega, z.2.2⟩
    · exact fun z => ⟨by omega, by omega, z.2⟩
  rw [bitC_of (fun j hj => ?_)]
  · rw [cnt_sI]
    congr 2
    unfold pcS
    rw [sI_cut (h := 2 * E.1) (by omega) (n := 14) (by omega) (fun j j0 j1 => ?_)]
    · refine sI_ext (fun j j0 j1 => ?_)
      rw [hb _ (by omega), show ((j.toNat : Nat) : Int) = j by omega]
      by_cases q : A j ≤ max 0 (E.2.1 (j / 2) - th)
      · rw [if_pos q, decide_eq_false (fun z => z.2 q), if_neg (by decide)]
      · rw [if_neg q, decide_eq_true ⟨by omega, q⟩, if_pos rfl]
    · rw [hb _ (by omega), show ((j.toNat : Nat) : Int) = j by omega, decide_eq_false (fun z => by omega), if_neg (by decide)]
  · by_cases w : j < 32
    · rw [hb j w, decide_eq_false (fun z => by omega)]
    · exact bt_hi _ (by omega)
