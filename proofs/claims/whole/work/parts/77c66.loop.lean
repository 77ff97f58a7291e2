theorem R.next {n : Int} {σ : CS} {τ : MS} (h : R n σ τ) (hn : n < 1000) : R (n + 1) σ τ := by
  obtain ⟨n0, g, c, m, G⟩ := h
  exact R.same ⟨n0.1, hn⟩ G c m
theorem and63 (x : Int32) : ∃ k : Nat, k < 64 ∧ x &&& 63 = iI k := by
  refine ⟨x.toBitVec.toNat % 64, by omega, ?_⟩
  apply Int32.toBitVec_inj.1
  rw [Int32.toBitVec_and]
  apply BitVec.eq_of_toNat_eq
  rw [BitVec.toNat_and]
  show _ &&& 63 = (BitVec.ofInt 32 _).toNat
  rw [BitVec.toNat_ofInt, show (63 : Nat) = 2 ^ 6 - 1 from rfl, Nat.and_two_pow_sub_one_eq_mod]
  omega
/-- a case that may throw: one cell of six slots may come, the row out may change -/
def ThC (l : Launch) (pc : Nat) : Prop :=
  ∀ (p : Program) (e : Env) (s : State) (m : MethodId) (args : Array Value) (below : List Frame) (meth : Method) (c : Code) (H : Heap) (locs : List Loc) (cells slots : Nat) (Q : State → Prop) (E : ENV) (A : Nat → Prop) (b L qx qm qo : Nat) (u v : List Nat) (xs : Nat → Int32) (σ : CS) (τ : MS) (lo : Nat → Int64) (ls : Array Slot) (i : Nat) (N : Int), CxL E A p s m args c → va_X b L xs s s.heap → b < s.heap.size → ¬ A b → (∀ q, s.heap.size ≤ q → A q) → cells + 1 ≤ room_1.cells → slots + 6 ≤ room_1.slots → i + 5 ≤ L → L ≤ 2560 → R N σ τ → N < 1000 →
    lv_has ls 7 [(0, .ref b), (1, .ref qx), (2, .ref qm), (3, .ref qo), (4, .int (iI i))] → va_P E.1 classes (WL E qx qm qo u v σ τ lo) H → va_D A (WL E qx qm qo u v σ τ lo) → va_S A s.heap H locs →
    (∀ (σ2 : CS) (τ2 : MS) (lo2 : Nat → Int64) (cells2 slots2 : Nat) (ls2 : Array Slot), R (N + 1) σ2 τ2 → cells2 ≤ cells + 1 → slots2 ≤ slots + 6 → lv_has ls2 7 [(0, .ref b), (1, .ref qx), (2, .ref qm), (3, .ref qo), (4, .int (iI i))] → ∀ (H1 : Heap) (locs1 : List Loc), va_P E.1 classes (WL E qx qm qo u v σ2 τ2 lo2) H1 → va_D A (WL E qx qm qo u v σ2 τ2 lo2) → va_S A s.heap H1 locs1 → W p l e room_1 s m args below meth c H1 locs1 cells2 slots2 Q (F0 m 2033 ls2 [])) →
    W p l e room_1 s m args below meth c H locs cells slots Q (F0 m pc ls [])
theorem dL_23 : decode code 23 = .ok (.iload 4, 2) := by decide +kernel
theorem dL_25 : decode code 25 = .ok (.aload_n 0, 1) := by decide +kernel
theorem dL_26 : decode code 26 = .ok (.arraylength, 1) := by decide +kernel
theorem dL_27 : decode code 27 = .ok (.iconst 5, 1) := by decide +kernel
theorem dL_28 : decode code 28 = .ok (.isub, 1) := by decide +kernel
theorem dL_29 : decode code 29 = .ok (.if_icmp .gt 2010, 3) := by decide +kernel
theorem dL_32 : decode code 32 = .ok (.aload_n 0, 1) := by decide +kernel
theorem dL_33 : decode code 33 = .ok (.iload 4, 2) := by decide +kernel
theorem dL_35 : decode code 35 = .ok (.iaload, 1) := by decide +kernel
theorem dL_36 : decode code 36 = .ok (.bipush 63, 2) := by decide +kernel
theorem dL_38 : decode code 38 = .ok (.iand, 1) := by decide +kernel
theorem dL_39 : decode code 39 = .ok (.tableswitch 1994 0 57 #[245, 270, 295, 308, 321, 334, 371, 396, 464, 513, 574, 599, 636, 649, 674, 711, 748, 785, 822, 871, 884, 897, 910, 923, 936, 992, 1005, 1018, 1031, 1044, 1069, 1106, 1119, 1144, 1169, 1206, 1243, 1268, 1293, 1306, 1331, 1380, 1448, 1485, 1534, 1571, 1608, 1645, 1670, 1707, 1763, 1800, 1813, 1838, 1863, 1888, 1913, 1938], 245) := by decide +kernel
theorem dL_2033 : decode code 2033 = .ok (.iinc 4 5, 3) := by decide +kernel
theorem dL_2036 : decode code 2036 = .ok (.goto (-2013), 3) := by decide +kernel
theorem dL_2039 : decode code 2039 = .ok (.iconst 1, 1) := by decide +kernel
theorem dL_2040 : decode code 2040 = .ok (.ireturn, 1) := by decide +kernel
set_option maxHeartbeats 4000000 in
theorem law_loop {p : Program} {l : Launch} {e : Env} {s : State} {m : MethodId} {below : List Frame} {meth : Method} {c : Code} {E : ENV} {b L qx qm qo : Nat} {u v : List Nat} {xs : Nat → Int32} (hL : L ≤ 2560) (C0 : lw_At p s m meth c b L xs) (C : CxL E (fun q => s.heap.size ≤ q) p s m #[Value.ref b] c) (T7 : ThC l 435) (T24 : ThC l 975) (T41 : ThC l 1419) (T49 : ThC l 1746) (T57 : ThC l 1977) :
    ∀ (k n : Nat) (σ : CS) (τ : MS) (lo : Nat → Int64) (cells slots : Nat) (H : Heap) (locs : List Loc) (ls : Array Slot), L ≤ 5 * n + 5 * k + 4 → 5 * n ≤ L + 5 → R n σ τ → cells ≤ 300 + n → slots ≤ 10000 + 6 * n → lv_has ls 7 [(0, .ref b), (1, .ref qx), (2, .ref qm), (3, .ref qo), (4, .int (iI (5 * n : Nat)))] → va_P E.1 classes (WL E qx qm qo u v σ τ lo) H → va_D (fun q => s.heap.size ≤ q) (WL E qx qm qo u v σ τ lo) → va_S (fun q => s.heap.size ≤ q) s.heap H locs →
      W p l e room_1 s m #[Value.ref b] below meth c H locs cells slots (lw_Z below #[Value.ref b] s) (F0 m 23 ls []) := by
  obtain ⟨hx, hb, hr, hml, hown, hts, hX, hbl, hlocks, hgv⟩ := C0
  have hA : ∀ q : Nat, s.heap.size ≤ q → (fun q : Nat => s.heap.size ≤ q) q := fun _ h => h
  have hbA : ¬ (fun q : Nat => s.heap.size ≤ q) b := Nat.not_le.mpr hbl
  intro k
  induction k with
  | zero =>
    intro n σ τ lo cells slots H locs ls h1 h2 hR hc hs hl hP hD hS
    refine lv_iload hx hb dL_23 (lv_at hl 4 rfl) ?_
    refine lv_aload_n hx hb dL_25 rfl (lv_at hl 0 rfl) ?_
    refine va_slen hx hb hX hbl hbA hS dL_26 ?_
    refine lv_iconst (v := 5) hx hb dL_27 (by decide) ?_
    refine lv_isub hx hb dL_28 ?_
    refine lv_icmp_gt (tgt := 2039) hx hb dL_29 (by decide) (fun c1 => ?_) (fun c1 => ?_)
    · refine lv_iconst (v := 1) hx hb dL_2039 (by decide) ?_
      refine va_forget (fun q hq => hS.2.2 q hq) ?_
      refine W.widen (k := 601024) (n := 7293034) (by omega) (by omega) ?_
      exact lw_ret hx hb hr hlocks dL_2040
    · exfalso
      apply c1
      rw [iI_nat, li_5, iI_sub, iI_lt (by omega) (by omega) (by omega) (by omega)]
      omega
  | succ k ih =>
    intro n σ τ lo cells slots H locs ls h1 h2 hR hc hs hl hP hD hS
    refine lv_iload hx hb dL_23 (lv_at hl 4 rfl) ?_
    refine lv_aload_n hx hb dL_25 rfl (lv_at hl 0 rfl) ?_
    refine va_slen hx hb hX hbl hbA hS dL_26 ?_
    refine lv_iconst (v := 5) hx hb dL_27 (by decide) ?_
    refine lv_isub hx hb dL_28 ?_
    refine lv_icmp_gt (tgt := 2039) hx hb dL_29 (by decide) (fun c1 => ?_) (fun c1 => ?_)
    · refine lv_iconst (v := 1) hx hb dL_2039 (by decide) ?_
      refine va_forget (fun q hq => hS.2.2 q hq) ?_
      refine W.widen (k := 601024) (n := 7293034) (by omega) (by omega) ?_
      exact lw_ret hx hb hr hlocks dL_2040
    · have hi : 5 * n + 5 ≤ L := by
        by_cases z : 5 * n + 5 ≤ L
        · exact z
        · exfalso
          apply c1
          rw [iI_nat, li_5, iI_sub, iI_lt (by omega) (by omega) (by omega) (by omega)]
          omega
      have hN : (n : Int) < 1000 := by omega
      have hcl : cells ≤ room_1.cells := by show cells ≤ 601024; omega
      have hsl : slots ≤ room_1.slots := by show slots ≤ 7293034; omega
      have hcl1 : cells + 1 ≤ room_1.cells := by show cells + 1 ≤ 601024; omega
      have hsl6 : slots + 6 ≤ room_1.slots := by show slots + 6 ≤ 7293034; omega
      have K2 : ∀ (σ2 : CS) (τ2 : MS) (lo2 : Nat → Int64) (cells2 slots2 : Nat) (ls2 : Array Slot), R ((n : Int) + 1) σ2 τ2 → cells2 ≤ cells + 1 → slots2 ≤ slots + 6 → lv_has ls2 7 [(0, .ref b), (1, .ref qx), (2, .ref qm), (3, .ref qo), (4, .int (iI (5 * n : Nat)))] → ∀ (H1 : Heap) (locs1 : List Loc), va_P E.1 classes (WL E qx qm qo u v σ2 τ2 lo2) H1 → va_D (fun q => s.heap.size ≤ q) (WL E qx qm qo u v σ2 τ2 lo2) → va_S (fun q => s.heap.size ≤ q) s.heap H1 locs1 → W p l e room_1 s m #[Value.ref b] below meth c H1 locs1 cells2 slots2 (lw_Z below #[Value.ref b] s) (F0 m 2033 ls2 []) := by
        intro σ2 τ2 lo2 cells2 slots2 ls2 hR2 hc2 hs2 hl H1 locs1 hP hD hS
        obtain ⟨y, ey⟩ : ∃ y : Int32, y = iI (5 * n : Nat) + 5 := ⟨_, rfl⟩
        have ey2 : y = iI (5 * (n + 1) : Nat) := by
          rw [ey, li_5, iI_add]
          congr 1
        refine lv_iinc (v := y) (lv' := [(4, .int y), (0, .ref b), (1, .ref qx), (2, .ref qm), (3, .ref qo)]) hx hb dL_2033 hl (k := 4) rfl (by rw [ey]; rfl) (by decide) rfl (fun ls hl => ?_)
        refine lv_goto (tgt := 23) hx hb dL_2036 (by decide) ?_
        rw [ey2] at hl
        exact ih (n + 1) σ2 τ2 lo2 cells2 slots2 H1 locs1 ls (by omega) (by omega) hR2 (by omega) (by omega) (lv_sub hl [1, 2, 3, 4, 0] rfl) hP hD hS
      have K1 : ∀ (σ2 : CS) (τ2 : MS), R ((n : Int) + 1) σ2 τ2 → ∀ (H1 : Heap) (locs1 : List Loc), va_P E.1 classes (WL E qx qm qo u v σ2 τ2 lo) H1 → va_D (fun q => s.heap.size ≤ q) (WL E qx qm qo u v σ2 τ2 lo) → va_S (fun q => s.heap.size ≤ q) s.heap H1 locs1 → W p l e room_1 s m #[Value.ref b] below meth c H1 locs1 cells slots (lw_Z below #[Value.ref b] s) (F0 m 2033 ls []) :=
        fun σ2 τ2 hR2 H1 locs1 h1 h2 h3 => K2 σ2 τ2 lo cells slots ls hR2 (by omega) (by omega) hl H1 locs1 h1 h2 h3
      have h0 : vp_in (iI (5 * n : Nat)) L := vin_in (vin_i (by omega) (by omega) (by omega))
      refine lv_aload_n hx hb dL_32 rfl (lv_at hl 0 rfl) ?_
      refine lv_iload hx hb dL_33 (lv_at hl 4 rfl) ?_
      refine va_sld hx hb hX hbl hbA hS h0 dL_35 ?_
      refine lv_bipush (v := 63) hx hb dL_36 (by decide) ?_
      refine lv_iand hx hb dL_38 ?_
      refine lv_topi (fun y ey => ?_)
      obtain ⟨k9, hk9, e9⟩ := and63 (xs (iI (5 * n : Nat)).toNatClampNeg)
      rw [e9] at ey
      subst ey
      match k9, hk9 with
      | 0, _ =>
        refine lv_tableIn hx hb dL_39 (off := 245) (tgt := 284) (by decide) (by decide) (by decide) (by decide) ?_
        exact lk_sign C hX hbl hbA hA hcl hsl hi hL hR hN hl hP hD hS K1
      | 1, _ =>
        refine lv_tableIn hx hb dL_39 (off := 270) (tgt := 309) (by decide) (by decide) (by decide) (by decide) ?_
        exact lk_end C hX hbl hbA hA hcl hsl hi hL hR hN hl hP hD hS K1
      | 2, _ =>
        refine lv_tableIn hx hb dL_39 (off := 295) (tgt := 334) (by decide) (by decide) (by decide) (by decide) ?_
        exact lk_town C hX hbl hbA hA hcl hsl hi hL hR hN hl hP hD hS K1
      | 3, _ =>
        refine lv_tableIn hx hb dL_39 (off := 308) (tgt := 347) (by decide) (by decide) (by decide) (by decide) ?_
        exact lk_weather C hX hbl hbA hA hcl hsl hi hL hR hN hl hP hD hS K1
      | 4, _ =>
        refine lv_tableIn hx hb dL_39 (off := 321) (tgt := 360) (by decide) (by decide) (by decide) (by decide) ?_
        exact lk_rule C hX hbl hbA hA hcl hsl hi hL hR hN hl hP hD hS K1
      | 5, _ =>
        refine lv_tableIn hx hb dL_39 (off := 334) (tgt := 373) (by decide) (by decide) (by decide) (by decide) ?_
        exact lk_winter C hX hbl hbA hA hcl hsl hi hL hR hN hl hP hD hS K1
      | 6, _ =>
        refine lv_tableIn hx hb dL_39 (off := 371) (tgt := 410) (by decide) (by decide) (by decide) (by decide) ?_
        exact lk_falls C hX hbl hbA hA hcl hsl hi hL hR hN hl hP hD hS K1
      | 7, _ =>
        refine lv_tableIn hx hb dL_39 (off := 396) (tgt := 435) (by decide) (by decide) (by decide) (by decide) ?_
        exact T7 p e s m _ below meth c H locs cells slots _ E _ b L qx qm qo u v xs σ τ lo ls (5 * n) n C hX hbl hbA hA hcl1 hsl6 hi hL hR hN hl hP hD hS K2
      | 8, _ =>
        refine lv_tableIn hx hb dL_39 (off := 464) (tgt := 503) (by decide) (by decide) (by decide) (by decide) ?_
        exact lk_set C hX hbl hbA hA hcl hsl hi hL hR hN hl hP hD hS K1
      | 9, _ =>
        refine lv_tableIn hx hb dL_39 (off := 513) (tgt := 552) (by decide) (by decide) (by decide) (by decide) ?_
        exact lk_sheet C hX hbl hbA hA hcl hsl hi hL hR hN hl hP hD hS K1
      | 10, _ =>
        refine lv_tableIn hx hb dL_39 (off := 574) (tgt := 613) (by decide) (by decide) (by decide) (by decide) ?_
        exact lk_above C hX hbl hbA hA hcl hsl hi hL hR hN hl hP hD hS K1
      | 11, _ =>
        refine lv_tableIn hx hb dL_39 (off := 599) (tgt := 638) (by decide) (by decide) (by decide) (by decide) ?_
        exact lk_debt C hX hbl hbA hA hcl hsl hi hL hR hN hl hP hD hS K1
      | 12, _ =>
        refine lv_tableIn hx hb dL_39 (off := 636) (tgt := 675) (by decide) (by decide) (by decide) (by decide) ?_
        exact lk_day C hX hbl hbA hA hcl hsl hi hL hR hN hl hP hD hS K1
      | 13, _ =>
        refine lv_tableIn hx hb dL_39 (off := 649) (tgt := 688) (by decide) (by decide) (by decide) (by decide) ?_
        exact lk_days C hX hbl hbA hA hcl hsl hi hL hR hN hl hP hD hS K1
      | 14, _ =>
        refine lv_tableIn hx hb dL_39 (off := 674) (tgt := 713) (by decide) (by decide) (by decide) (by decide) ?_
        exact lk_sweep C hX hbl hbA hA hcl hsl hi hL hR hN hl hP hD hS K1
      | 15, _ =>
        refine lv_tableIn hx hb dL_39 (off := 711) (tgt := 750) (by decide) (by decide) (by decide) (by decide) ?_
        exact lk_clear C hX hbl hbA hA hcl hsl hi hL hR hN hl hP hD hS K1
      | 16, _ =>
        refine lv_tableIn hx hb dL_39 (off := 748) (tgt := 787) (by decide) (by decide) (by decide) (by decide) ?_
        exact lk_wind C hX hbl hbA hA hcl hsl hi hL hR hN hl hP hD hS K1
      | 17, _ =>
        refine lv_tableIn hx hb dL_39 (off := 785) (tgt := 824) (by decide) (by decide) (by decide) (by decide) ?_
        exact lk_loose C hX hbl hbA hA hcl hsl hi hL hR hN hl hP hD hS K1
      | 18, _ =>
        refine lv_tableIn hx hb dL_39 (off := 822) (tgt := 861) (by decide) (by decide) (by decide) (by decide) ?_
        exact lk_work C hX hbl hbA hA hcl hsl hi hL hR hN hl hP hD hS K1
      | 19, _ =>
        refine lv_tableIn hx hb dL_39 (off := 871) (tgt := 910) (by decide) (by decide) (by decide) (by decide) ?_
        exact lk_night C hX hbl hbA hA hcl hsl hi hL hR hN hl hP hD hS K1
      | 20, _ =>
        refine lv_tableIn hx hb dL_39 (off := 884) (tgt := 923) (by decide) (by decide) (by decide) (by decide) ?_
        exact lk_undo C hX hbl hbA hA hcl hsl hi hL hR hN hl hP hD hS K1
      | 21, _ =>
        refine lv_tableIn hx hb dL_39 (off := 897) (tgt := 936) (by decide) (by decide) (by decide) (by decide) ?_
        exact lk_ring C hX hbl hbA hA hcl hsl hi hL hR hN hl hP hD hS K1
      | 22, _ =>
        refine lv_tableIn hx hb dL_39 (off := 910) (tgt := 949) (by decide) (by decide) (by decide) (by decide) ?_
        exact lk_cancel C hX hbl hbA hA hcl hsl hi hL hR hN hl hP hD hS K1
      | 23, _ =>
        refine lv_tableIn hx hb dL_39 (off := 923) (tgt := 962) (by decide) (by decide) (by decide) (by decide) ?_
        exact lk_rings C hX hbl hbA hA hcl hsl hi hL hR hN hl hP hD hS K1
      | 24, _ =>
        refine lv_tableIn hx hb dL_39 (off := 936) (tgt := 975) (by decide) (by decide) (by decide) (by decide) ?_
        exact T24 p e s m _ below meth c H locs cells slots _ E _ b L qx qm qo u v xs σ τ lo ls (5 * n) n C hX hbl hbA hA hcl1 hsl6 hi hL hR hN hl hP hD hS K2
      | 25, _ =>
        refine lv_tableIn hx hb dL_39 (off := 992) (tgt := 1031) (by decide) (by decide) (by decide) (by decide) ?_
        exact lk_least C hX hbl hbA hA hcl hsl hi hL hR hN hl hP hD hS K1
      | 26, _ =>
        refine lv_tableIn hx hb dL_39 (off := 1005) (tgt := 1044) (by decide) (by decide) (by decide) (by decide) ?_
        exact lk_even C hX hbl hbA hA hcl hsl hi hL hR hN hl hP hD hS K1
      | 27, _ =>
        refine lv_tableIn hx hb dL_39 (off := 1018) (tgt := 1057) (by decide) (by decide) (by decide) (by decide) ?_
        exact lk_debtor C hX hbl hbA hA hcl hsl hi hL hR hN hl hP hD hS K1
      | 28, _ =>
        refine lv_tableIn hx hb dL_39 (off := 1031) (tgt := 1070) (by decide) (by decide) (by decide) (by decide) ?_
        exact lk_june C hX hbl hbA hA hcl hsl hi hL hR hN hl hP hD hS K1
      | 29, _ =>
        refine lv_tableIn hx hb dL_39 (off := 1044) (tgt := 1083) (by decide) (by decide) (by decide) (by decide) ?_
        exact lk_hay C hX hbl hbA hA hcl hsl hi hL hR hN hl hP hD hS K1
      | 30, _ =>
        refine lv_tableIn hx hb dL_39 (off := 1069) (tgt := 1108) (by decide) (by decide) (by decide) (by decide) ?_
        exact lk_works C hX hbl hbA hA hcl hsl hi hL hR hN hl hP hD hS K1
      | 31, _ =>
        refine lv_tableIn hx hb dL_39 (off := 1106) (tgt := 1145) (by decide) (by decide) (by decide) (by decide) ?_
        exact lk_summer C hX hbl hbA hA hcl hsl hi hL hR hN hl hP hD hS K1
      | 32, _ =>
        refine lv_tableIn hx hb dL_39 (off := 1119) (tgt := 1158) (by decide) (by decide) (by decide) (by decide) ?_
        exact lk_ahead C hX hbl hbA hA hcl hsl hi hL hR hN hl hP hD hS K1
      | 33, _ =>
        refine lv_tableIn hx hb dL_39 (off := 1144) (tgt := 1183) (by decide) (by decide) (by decide) (by decide) ?_
        exact lk_slides C hX hbl hbA hA hcl hsl hi hL hR hN hl hP hD hS K1
      | 34, _ =>
        refine lv_tableIn hx hb dL_39 (off := 1169) (tgt := 1208) (by decide) (by decide) (by decide) (by decide) ?_
        exact lk_later C hX hbl hbA hA hcl hsl hi hL hR hN hl hP hD hS K1
      | 35, _ =>
        refine lv_tableIn hx hb dL_39 (off := 1206) (tgt := 1245) (by decide) (by decide) (by decide) (by decide) ?_
        exact lk_deepest C hX hbl hbA hA hcl hsl hi hL hR hN hl hP hD hS K1
      | 36, _ =>
        refine lv_tableIn hx hb dL_39 (off := 1243) (tgt := 1282) (by decide) (by decide) (by decide) (by decide) ?_
        exact lk_lord C hX hbl hbA hA hcl hsl hi hL hR hN hl hP hD hS K1
      | 37, _ =>
        refine lv_tableIn hx hb dL_39 (off := 1268) (tgt := 1307) (by decide) (by decide) (by decide) (by decide) ?_
        exact lk_worst C hX hbl hbA hA hcl hsl hi hL hR hN hl hP hD hS K1
      | 38, _ =>
        refine lv_tableIn hx hb dL_39 (off := 1293) (tgt := 1332) (by decide) (by decide) (by decide) (by decide) ?_
        exact lk_melt C hX hbl hbA hA hcl hsl hi hL hR hN hl hP hD hS K1
      | 39, _ =>
        refine lv_tableIn hx hb dL_39 (off := 1306) (tgt := 1345) (by decide) (by decide) (by decide) (by decide) ?_
        exact lk_lazy C hX hbl hbA hA hcl hsl hi hL hR hN hl hP hD hS K1
      | 40, _ =>
        refine lv_tableIn hx hb dL_39 (off := 1331) (tgt := 1370) (by decide) (by decide) (by decide) (by decide) ?_
        exact lk_dig C hX hbl hbA hA hcl hsl hi hL hR hN hl hP hD hS K1
      | 41, _ =>
        refine lv_tableIn hx hb dL_39 (off := 1380) (tgt := 1419) (by decide) (by decide) (by decide) (by decide) ?_
        exact T41 p e s m _ below meth c H locs cells slots _ E _ b L qx qm qo u v xs σ τ lo ls (5 * n) n C hX hbl hbA hA hcl1 hsl6 hi hL hR hN hl hP hD hS K2
      | 42, _ =>
        refine lv_tableIn hx hb dL_39 (off := 1448) (tgt := 1487) (by decide) (by decide) (by decide) (by decide) ?_
        exact lk_best C hX hbl hbA hA hcl hsl hi hL hR hN hl hP hD hS K1
      | 43, _ =>
        refine lv_tableIn hx hb dL_39 (off := 1485) (tgt := 1524) (by decide) (by decide) (by decide) (by decide) ?_
        exact lk_own C hX hbl hbA hA hcl hsl hi hL hR hN hl hP hD hS K1
      | 44, _ =>
        refine lv_tableIn hx hb dL_39 (off := 1534) (tgt := 1573) (by decide) (by decide) (by decide) (by decide) ?_
        exact lk_better C hX hbl hbA hA hcl hsl hi hL hR hN hl hP hD hS K1
      | 45, _ =>
        refine lv_tableIn hx hb dL_39 (off := 1571) (tgt := 1610) (by decide) (by decide) (by decide) (by decide) ?_
        exact lk_rests C hX hbl hbA hA hcl hsl hi hL hR hN hl hP hD hS K1
      | 46, _ =>
        refine lv_tableIn hx hb dL_39 (off := 1608) (tgt := 1647) (by decide) (by decide) (by decide) (by decide) ?_
        exact lk_rough C hX hbl hbA hA hcl hsl hi hL hR hN hl hP hD hS K1
      | 47, _ =>
        refine lv_tableIn hx hb dL_39 (off := 1645) (tgt := 1684) (by decide) (by decide) (by decide) (by decide) ?_
        exact lk_turned C hX hbl hbA hA hcl hsl hi hL hR hN hl hP hD hS K1
      | 48, _ =>
        refine lv_tableIn hx hb dL_39 (off := 1670) (tgt := 1709) (by decide) (by decide) (by decide) (by decide) ?_
        exact lk_needs C hX hbl hbA hA hcl hsl hi hL hR hN hl hP hD hS K1
      | 49, _ =>
        refine lv_tableIn hx hb dL_39 (off := 1707) (tgt := 1746) (by decide) (by decide) (by decide) (by decide) ?_
        exact T49 p e s m _ below meth c H locs cells slots _ E _ b L qx qm qo u v xs σ τ lo ls (5 * n) n C hX hbl hbA hA hcl1 hsl6 hi hL hR hN hl hP hD hS K2
      | 50, _ =>
        refine lv_tableIn hx hb dL_39 (off := 1763) (tgt := 1802) (by decide) (by decide) (by decide) (by decide) ?_
        exact lk_track C hX hbl hbA hA hcl hsl hi hL hR hN hl hP hD hS K1
      | 51, _ =>
        refine lv_tableIn hx hb dL_39 (off := 1800) (tgt := 1839) (by decide) (by decide) (by decide) (by decide) ?_
        exact lk_thaw C hX hbl hbA hA hcl hsl hi hL hR hN hl hP hD hS K1
      | 52, _ =>
        refine lv_tableIn hx hb dL_39 (off := 1813) (tgt := 1852) (by decide) (by decide) (by decide) (by decide) ?_
        exact lk_suspects C hX hbl hbA hA hcl hsl hi hL hR hN hl hP hD hS K1
      | 53, _ =>
        refine lv_tableIn hx hb dL_39 (off := 1838) (tgt := 1877) (by decide) (by decide) (by decide) (by decide) ?_
        exact lk_gang C hX hbl hbA hA hcl hsl hi hL hR hN hl hP hD hS K1
      | 54, _ =>
        refine lv_tableIn hx hb dL_39 (off := 1863) (tgt := 1902) (by decide) (by decide) (by decide) (by decide) ?_
        exact lk_keep C hX hbl hbA hA hcl hsl hi hL hR hN hl hP hD hS K1
      | 55, _ =>
        refine lv_tableIn hx hb dL_39 (off := 1888) (tgt := 1927) (by decide) (by decide) (by decide) (by decide) ?_
        exact lk_again C hX hbl hbA hA hcl hsl hi hL hR hN hl hP hD hS K1
      | 56, _ =>
        refine lv_tableIn hx hb dL_39 (off := 1913) (tgt := 1952) (by decide) (by decide) (by decide) (by decide) ?_
        exact lk_count C hX hbl hbA hA hcl hsl hi hL hR hN hl hP hD hS K1
      | 57, _ =>
        refine lv_tableIn hx hb dL_39 (off := 1938) (tgt := 1977) (by decide) (by decide) (by decide) (by decide) ?_
        exact T57 p e s m _ below meth c H locs cells slots _ E _ b L qx qm qo u v xs σ τ lo ls (5 * n) n C hX hbl hbA hA hcl1 hsl6 hi hL hR hN hl hP hD hS K2
      | j + 58, hj =>
        refine lv_tableOut hx hb dL_39 (tgt := 2033) (Or.inr ?_) (by decide) ?_
        · rw [iI_toInt (by omega) (by omega)]
          omega
        · exact K1 σ τ (hR.next (by omega)) H locs hP hD hS
