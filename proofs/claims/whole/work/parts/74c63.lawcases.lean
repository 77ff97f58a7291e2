set_option maxHeartbeats 4000000 in
theorem law_c0 {p : Program} {l : Launch} {e : Env} {s : State} {m : MethodId} {args : Array Value} {below : List Frame} {meth : Method} {c : Code} {H : Heap} {locs : List Loc} {cells slots : Nat} {Q : State → Prop} {E : ENV} {A : Nat → Prop} {b L qx qm qo : Nat} {u v : List Nat} {xs : Nat → Int32} {σ σ2 : CS} {τ τ2 : MS} {lo : Nat → Int64} {ls : Array Slot} {i pc i1 i2 d1 d2 n1 n2 : Nat} {off : Int} {y1 y2 : MethodName} {cc1 cc2 : ByteArray} {r1 r2 : Option FieldType} {rv : Int32}
    (C : CxL E A p s m args c) (hX : va_X b L xs s s.heap) (hbl : b < s.heap.size) (hbA : ¬ A b) (hA : ∀ q, s.heap.size ≤ q → A q) (hcl : cells ≤ room_1.cells) (hsl : slots ≤ room_1.slots) (hi : i + 5 ≤ L) (hL : L ≤ 2560)
    (KX : KV R_law i1 y1 cc1 n1 r1 0) (cx : y1.cls = "SnowForSummer") (hR1 : (rmd d1).frames + 1 ≤ room_1.frames ∧ 8 + (n1 + 11) + (rmd d1).locals ≤ room_1.locals) (CX : CI l E y1 cc1 n1 r1 d1 [.ref qx] (WC E qx u σ) (WC E qx u σ2) rv)
    (KY : KV R_law i2 y2 cc2 n2 r2 0) (cy : y2.cls = "SnowForSummerModel") (hR2 : (rmd d2).frames + 1 ≤ room_1.frames ∧ 8 + (n2 + 11) + (rmd d2).locals ≤ room_1.locals) (CY : CI l E y2 cc2 n2 r2 d2 [.ref qm] (WM E qm v τ) (WM E qm v τ2) rv)
    (d0 : decode code pc = .ok (.aload_n 1, 1)) (d1 : decode code (pc + 1) = .ok (.invokevirtual i1, 3)) (d4 : decode code (pc + 4) = .ok (.aload_n 2, 1)) (d5 : decode code (pc + 5) = .ok (.invokevirtual i2, 3)) (d8 : decode code (pc + 8) = .ok (.if_icmp .eq off, 3)) (ht : ((pc + 8 : Nat) : Int) + off = ((2033 : Nat) : Int))
    (hl : lv_has ls 7 [(0, .ref b), (1, .ref qx), (2, .ref qm), (3, .ref qo), (4, .int (iI i))]) (hP : va_P E.1 classes (WL E qx qm qo u v σ τ lo) H) (hD : va_D A (WL E qx qm qo u v σ τ lo)) (hS : va_S A s.heap H locs)
    (kk : ∀ (H1 : Heap) (locs1 : List Loc), va_P E.1 classes (WL E qx qm qo u v σ2 τ2 lo) H1 → va_D A (WL E qx qm qo u v σ2 τ2 lo) → va_S A s.heap H1 locs1 → W p l e room_1 s m args below meth c H1 locs1 cells slots Q (F0 m 2033 ls [])) :
    W p l e room_1 s m args below meth c H locs cells slots Q (F0 m pc ls []) := by
  have hx := C.1
  have hb := C.2.1
  obtain ⟨fx, hrx⟩ := @WL_x E qx qm qo u v σ τ lo
  obtain ⟨fm, hrm⟩ := @WL_m E qx qm qo u v σ2 τ lo
  refine lv_aload_n hx hb d0 rfl (lv_at hl 1 rfl) ?_
  refine k_L (As := []) C KX hR1 hcl hsl (CX.x qm qo v τ lo) (by rw [WL_len, WL_len]) (ci := 11) rfl (by rw [cx]; rfl) hrx hP hD hS hA hl.1 (Nat.le_of_ble_eq_true rfl) rfl d1 (fun H locs hP hD hS => ?_)
  refine lv_aload_n hx hb d4 rfl (lv_at hl 2 rfl) ?_
  refine k_L (As := []) C KY hR2 hcl hsl (CY.m qx qo u σ2 lo) (by rw [WL_len, WL_len]) (ci := 12) rfl (by rw [cy]; rfl) hrm hP hD hS hA hl.1 (Nat.le_of_ble_eq_true rfl) rfl d5 (fun H locs hP hD hS => ?_)
  refine lv_icmp_eq (tgt := 2033) hx hb d8 ht (fun _ => ?_) (fun z => absurd rfl z)
  exact kk H locs hP hD hS
set_option maxHeartbeats 4000000 in
theorem law_c1 {p : Program} {l : Launch} {e : Env} {s : State} {m : MethodId} {args : Array Value} {below : List Frame} {meth : Method} {c : Code} {H : Heap} {locs : List Loc} {cells slots : Nat} {Q : State → Prop} {E : ENV} {A : Nat → Prop} {b L qx qm qo : Nat} {u v : List Nat} {xs : Nat → Int32} {σ σ2 : CS} {τ τ2 : MS} {lo : Nat → Int64} {ls : Array Slot} {i pc i1 i2 d1 d2 n1 n2 : Nat} {off : Int} {y1 y2 : MethodName} {cc1 cc2 : ByteArray} {r1 r2 : Option FieldType} {rv : Int32}
    (C : CxL E A p s m args c) (hX : va_X b L xs s s.heap) (hbl : b < s.heap.size) (hbA : ¬ A b) (hA : ∀ q, s.heap.size ≤ q → A q) (hcl : cells ≤ room_1.cells) (hsl : slots ≤ room_1.slots) (hi : i + 5 ≤ L) (hL : L ≤ 2560)
    (KX : KV R_law i1 y1 cc1 n1 r1 1) (cx : y1.cls = "SnowForSummer") (hR1 : (rmd d1).frames + 1 ≤ room_1.frames ∧ 8 + (n1 + 11) + (rmd d1).locals ≤ room_1.locals) (CX : CI l E y1 cc1 n1 r1 d1 [.ref qx, .int (xs (i + 1))] (WC E qx u σ) (WC E qx u σ2) rv)
    (KY : KV R_law i2 y2 cc2 n2 r2 1) (cy : y2.cls = "SnowForSummerModel") (hR2 : (rmd d2).frames + 1 ≤ room_1.frames ∧ 8 + (n2 + 11) + (rmd d2).locals ≤ room_1.locals) (CY : CI l E y2 cc2 n2 r2 d2 [.ref qm, .int (xs (i + 1))] (WM E qm v τ) (WM E qm v τ2) rv)
    (d0 : decode code pc = .ok (.aload_n 1, 1)) (d1 : decode code (pc + 1) = .ok (.aload_n 0, 1)) (d2 : decode code (pc + 2) = .ok (.iload 4, 2)) (d4 : decode code (pc + 4) = .ok (.iconst 1, 1)) (d5 : decode code (pc + 5) = .ok (.iadd, 1)) (d6 : decode code (pc + 6) = .ok (.iaload, 1)) (d7 : decode code (pc + 7) = .ok (.invokevirtual i1, 3)) (d10 : decode code (pc + 10) = .ok (.aload_n 2, 1)) (d11 : decode code (pc + 11) = .ok (.aload_n 0, 1)) (d12 : decode code (pc + 12) = .ok (.iload 4, 2)) (d14 : decode code (pc + 14) = .ok (.iconst 1, 1)) (d15 : decode code (pc + 15) = .ok (.iadd, 1)) (d16 : decode code (pc + 16) = .ok (.iaload, 1)) (d17 : decode code (pc + 17) = .ok (.invokevirtual i2, 3)) (d20 : decode code (pc + 20) = .ok (.if_icmp .eq off, 3)) (ht : ((pc + 20 : Nat) : Int) + off = ((2033 : Nat) : Int))
    (hl : lv_has ls 7 [(0, .ref b), (1, .ref qx), (2, .ref qm), (3, .ref qo), (4, .int (iI i))]) (hP : va_P E.1 classes (WL E qx qm qo u v σ τ lo) H) (hD : va_D A (WL E qx qm qo u v σ τ lo)) (hS : va_S A s.heap H locs)
    (kk : ∀ (H1 : Heap) (locs1 : List Loc), va_P E.1 classes (WL E qx qm qo u v σ2 τ2 lo) H1 → va_D A (WL E qx qm qo u v σ2 τ2 lo) → va_S A s.heap H1 locs1 → W p l e room_1 s m args below meth c H1 locs1 cells slots Q (F0 m 2033 ls [])) :
    W p l e room_1 s m args below meth c H locs cells slots Q (F0 m pc ls []) := by
  have hx := C.1
  have hb := C.2.1
  obtain ⟨fx, hrx⟩ := @WL_x E qx qm qo u v σ τ lo
  obtain ⟨fm, hrm⟩ := @WL_m E qx qm qo u v σ2 τ lo
  have ei1 : iI i + 1 = iI ((i + 1 : Nat) : Int) := by rw [li_1, iI_add]; rfl
  have hi1 : vp_in (iI ((i + 1 : Nat) : Int)) L := vin_in (vin_i (by omega) (by omega) (by omega))
  have ci1 : (iI ((i + 1 : Nat) : Int)).toNatClampNeg = i + 1 := by rw [iI_clamp (by omega) (by omega)]; omega
  refine lv_aload_n hx hb d0 rfl (lv_at hl 1 rfl) ?_
  refine lv_aload_n hx hb d1 rfl (lv_at hl 0 rfl) ?_
  refine lv_iload hx hb d2 (lv_at hl 4 rfl) ?_
  refine lv_iconst (v := 1) hx hb d4 (by decide) ?_
  refine lv_iadd hx hb d5 ?_
  rw [ei1]
  refine va_sld hx hb hX hbl hbA hS hi1 d6 ?_
  rw [ci1]
  refine k_L (As := [.int (xs (i + 1))]) C KX hR1 hcl hsl (CX.x qm qo v τ lo) (by rw [WL_len, WL_len]) (ci := 11) rfl (by rw [cx]; rfl) hrx hP hD hS hA hl.1 (Nat.le_of_ble_eq_true rfl) rfl d7 (fun H locs hP hD hS => ?_)
  refine lv_aload_n hx hb d10 rfl (lv_at hl 2 rfl) ?_
  refine lv_aload_n hx hb d11 rfl (lv_at hl 0 rfl) ?_
  refine lv_iload hx hb d12 (lv_at hl 4 rfl) ?_
  refine lv_iconst (v := 1) hx hb d14 (by decide) ?_
  refine lv_iadd hx hb d15 ?_
  rw [ei1]
  refine va_sld hx hb hX hbl hbA hS hi1 d16 ?_
  rw [ci1]
  refine k_L (As := [.int (xs (i + 1))]) C KY hR2 hcl hsl (CY.m qx qo u σ2 lo) (by rw [WL_len, WL_len]) (ci := 12) rfl (by rw [cy]; rfl) hrm hP hD hS hA hl.1 (Nat.le_of_ble_eq_true rfl) rfl d17 (fun H locs hP hD hS => ?_)
  refine lv_icmp_eq (tgt := 2033) hx hb d20 ht (fun _ => ?_) (fun z => absurd rfl z)
  exact kk H locs hP hD hS
set_option maxHeartbeats 4000000 in
theorem law_c2 {p : Program} {l : Launch} {e : Env} {s : State} {m : MethodId} {args : Array Value} {below : List Frame} {meth : Method} {c : Code} {H : Heap} {locs : List Loc} {cells slots : Nat} {Q : State → Prop} {E : ENV} {A : Nat → Prop} {b L qx qm qo : Nat} {u v : List Nat} {xs : Nat → Int32} {σ σ2 : CS} {τ τ2 : MS} {lo : Nat → Int64} {ls : Array Slot} {i pc i1 i2 d1 d2 n1 n2 : Nat} {off : Int} {y1 y2 : MethodName} {cc1 cc2 : ByteArray} {r1 r2 : Option FieldType} {rv : Int32}
    (C : CxL E A p s m args c) (hX : va_X b L xs s s.heap) (hbl : b < s.heap.size) (hbA : ¬ A b) (hA : ∀ q, s.heap.size ≤ q → A q) (hcl : cells ≤ room_1.cells) (hsl : slots ≤ room_1.slots) (hi : i + 5 ≤ L) (hL : L ≤ 2560)
    (KX : KV R_law i1 y1 cc1 n1 r1 2) (cx : y1.cls = "SnowForSummer") (hR1 : (rmd d1).frames + 1 ≤ room_1.frames ∧ 8 + (n1 + 11) + (rmd d1).locals ≤ room_1.locals) (CX : CI l E y1 cc1 n1 r1 d1 [.ref qx, .int (xs (i + 1)), .int (xs (i + 2))] (WC E qx u σ) (WC E qx u σ2) rv)
    (KY : KV R_law i2 y2 cc2 n2 r2 2) (cy : y2.cls = "SnowForSummerModel") (hR2 : (rmd d2).frames + 1 ≤ room_1.frames ∧ 8 + (n2 + 11) + (rmd d2).locals ≤ room_1.locals) (CY : CI l E y2 cc2 n2 r2 d2 [.ref qm, .int (xs (i + 1)), .int (xs (i + 2))] (WM E qm v τ) (WM E qm v τ2) rv)
    (d0 : decode code pc = .ok (.aload_n 1, 1)) (d1 : decode code (pc + 1) = .ok (.aload_n 0, 1)) (d2 : decode code (pc + 2) = .ok (.iload 4, 2)) (d4 : decode code (pc + 4) = .ok (.iconst 1, 1)) (d5 : decode code (pc + 5) = .ok (.iadd, 1)) (d6 : decode code (pc + 6) = .ok (.iaload, 1)) (d7 : decode code (pc + 7) = .ok (.aload_n 0, 1)) (d8 : decode code (pc + 8) = .ok (.iload 4, 2)) (d10 : decode code (pc + 10) = .ok (.iconst 2, 1)) (d11 : decode code (pc + 11) = .ok (.iadd, 1)) (d12 : decode code (pc + 12) = .ok (.iaload, 1)) (d13 : decode code (pc + 13) = .ok (.invokevirtual i1, 3)) (d16 : decode code (pc + 16) = .ok (.aload_n 2, 1)) (d17 : decode code (pc + 17) = .ok (.aload_n 0, 1)) (d18 : decode code (pc + 18) = .ok (.iload 4, 2)) (d20 : decode code (pc + 20) = .ok (.iconst 1, 1)) (d21 : decode code (pc + 21) = .ok (.iadd, 1)) (d22 : decode code (pc + 22) = .ok (.iaload, 1)) (d23 : decode code (pc + 23) = .ok (.aload_n 0, 1)) (d24 : decode code (pc + 24) = .ok (.iload 4, 2)) (d26 : decode code (pc + 26) = .ok (.iconst 2, 1)) (d27 : decode code (pc + 27) = .ok (.iadd, 1)) (d28 : decode code (pc + 28) = .ok (.iaload, 1)) (d29 : decode code (pc + 29) = .ok (.invokevirtual i2, 3)) (d32 : decode code (pc + 32) = .ok (.if_icmp .eq off, 3)) (ht : ((pc + 32 : Nat) : Int) + off = ((2033 : Nat) : Int))
    (hl : lv_has ls 7 [(0, .ref b), (1, .ref qx), (2, .ref qm), (3, .ref qo), (4, .int (iI i))]) (hP : va_P E.1 classes (WL E qx qm qo u v σ τ lo) H) (hD : va_D A (WL E qx qm qo u v σ τ lo)) (hS : va_S A s.heap H locs)
    (kk : ∀ (H1 : Heap) (locs1 : List Loc), va_P E.1 classes (WL E qx qm qo u v σ2 τ2 lo) H1 → va_D A (WL E qx qm qo u v σ2 τ2 lo) → va_S A s.heap H1 locs1 → W p l e room_1 s m args below meth c H1 locs1 cells slots Q (F0 m 2033 ls [])) :
    W p l e room_1 s m args below meth c H locs cells slots Q (F0 m pc ls []) := by
  have hx := C.1
  have hb := C.2.1
  obtain ⟨fx, hrx⟩ := @WL_x E qx qm qo u v σ τ lo
  obtain ⟨fm, hrm⟩ := @WL_m E qx qm qo u v σ2 τ lo
  have ei1 : iI i + 1 = iI ((i + 1 : Nat) : Int) := by rw [li_1, iI_add]; rfl
  have hi1 : vp_in (iI ((i + 1 : Nat) : Int)) L := vin_in (vin_i (by omega) (by omega) (by omega))
  have ci1 : (iI ((i + 1 : Nat) : Int)).toNatClampNeg = i + 1 := by rw [iI_clamp (by omega) (by omega)]; omega
  have ei2 : iI i + 2 = iI ((i + 2 : Nat) : Int) := by rw [li_2, iI_add]; rfl
  have hi2 : vp_in (iI ((i + 2 : Nat) : Int)) L := vin_in (vin_i (by omega) (by omega) (by omega))
  have ci2 : (iI ((i + 2 : Nat) : Int)).toNatClampNeg = i + 2 := by rw [iI_clamp (by omega) (by omega)]; omega
  refine lv_aload_n hx hb d0 rfl (lv_at hl 1 rfl) ?_
  refine lv_aload_n hx hb d1 rfl (lv_at hl 0 rfl) ?_
  refine lv_iload hx hb d2 (lv_at hl 4 rfl) ?_
  refine lv_iconst (v := 1) hx hb d4 (by decide) ?_
  refine lv_iadd hx hb d5 ?_
  rw [ei1]
  refine va_sld hx hb hX hbl hbA hS hi1 d6 ?_
  rw [ci1]
  refine lv_aload_n hx hb d7 rfl (lv_at hl 0 rfl) ?_
  refine lv_iload hx hb d8 (lv_at hl 4 rfl) ?_
  refine lv_iconst (v := 2) hx hb d10 (by decide) ?_
  refine lv_iadd hx hb d11 ?_
  rw [ei2]
  refine va_sld hx hb hX hbl hbA hS hi2 d12 ?_
  rw [ci2]
  refine k_L (As := [.int (xs (i + 1)), .int (xs (i + 2))]) C KX hR1 hcl hsl (CX.x qm qo v τ lo) (by rw [WL_len, WL_len]) (ci := 11) rfl (by rw [cx]; rfl) hrx hP hD hS hA hl.1 (Nat.le_of_ble_eq_true rfl) rfl d13 (fun H locs hP hD hS => ?_)
  refine lv_aload_n hx hb d16 rfl (lv_at hl 2 rfl) ?_
  refine lv_aload_n hx hb d17 rfl (lv_at hl 0 rfl) ?_
  refine lv_iload hx hb d18 (lv_at hl 4 rfl) ?_
  refine lv_iconst (v := 1) hx hb d20 (by decide) ?_
  refine lv_iadd hx hb d21 ?_
  rw [ei1]
  refine va_sld hx hb hX hbl hbA hS hi1 d22 ?_
  rw [ci1]
  refine lv_aload_n hx hb d23 rfl (lv_at hl 0 rfl) ?_
  refine lv_iload hx hb d24 (lv_at hl 4 rfl) ?_
  refine lv_iconst (v := 2) hx hb d26 (by decide) ?_
  refine lv_iadd hx hb d27 ?_
  rw [ei2]
  refine va_sld hx hb hX hbl hbA hS hi2 d28 ?_
  rw [ci2]
  refine k_L (As := [.int (xs (i + 1)), .int (xs (i + 2))]) C KY hR2 hcl hsl (CY.m qx qo u σ2 lo) (by rw [WL_len, WL_len]) (ci := 12) rfl (by rw [cy]; rfl) hrm hP hD hS hA hl.1 (Nat.le_of_ble_eq_true rfl) rfl d29 (fun H locs hP hD hS => ?_)
  refine lv_icmp_eq (tgt := 2033) hx hb d32 ht (fun _ => ?_) (fun z => absurd rfl z)
  exact kk H locs hP hD hS
set_option maxHeartbeats 4000000 in
theorem law_c3 {p : Program} {l : Launch} {e : Env} {s : State} {m : MethodId} {args : Array Value} {below : List Frame} {meth : Method} {c : Code} {H : Heap} {locs : List Loc} {cells slots : Nat} {Q : State → Prop} {E : ENV} {A : Nat → Prop} {b L qx qm qo : Nat} {u v : List Nat} {xs : Nat → Int32} {σ σ2 : CS} {τ τ2 : MS} {lo : Nat → Int64} {ls : Array Slot} {i pc i1 i2 d1 d2 n1 n2 : Nat} {off : Int} {y1 y2 : MethodName} {cc1 cc2 : ByteArray} {r1 r2 : Option FieldType} {rv : Int32}
    (C : CxL E A p s m args c) (hX : va_X b L xs s s.heap) (hbl : b < s.heap.size) (hbA : ¬ A b) (hA : ∀ q, s.heap.size ≤ q → A q) (hcl : cells ≤ room_1.cells) (hsl : slots ≤ room_1.slots) (hi : i + 5 ≤ L) (hL : L ≤ 2560)
    (KX : KV R_law i1 y1 cc1 n1 r1 3) (cx : y1.cls = "SnowForSummer") (hR1 : (rmd d1).frames + 1 ≤ room_1.frames ∧ 8 + (n1 + 11) + (rmd d1).locals ≤ room_1.locals) (CX : CI l E y1 cc1 n1 r1 d1 [.ref qx, .int (xs (i + 1)), .int (xs (i + 2)), .int (xs (i + 3))] (WC E qx u σ) (WC E qx u σ2) rv)
    (KY : KV R_law i2 y2 cc2 n2 r2 3) (cy : y2.cls = "SnowForSummerModel") (hR2 : (rmd d2).frames + 1 ≤ room_1.frames ∧ 8 + (n2 + 11) + (rmd d2).locals ≤ room_1.locals) (CY : CI l E y2 cc2 n2 r2 d2 [.ref qm, .int (xs (i + 1)), .int (xs (i + 2)), .int (xs (i + 3))] (WM E qm v τ) (WM E qm v τ2) rv)
    (d0 : decode code pc = .ok (.aload_n 1, 1)) (d1 : decode code (pc + 1) = .ok (.aload_n 0, 1)) (d2 : decode code (pc + 2) = .ok (.iload 4, 2)) (d4 : decode code (pc + 4) = .ok (.iconst 1, 1)) (d5 : decode code (pc + 5) = .ok (.iadd, 1)) (d6 : decode code (pc + 6) = .ok (.iaload, 1)) (d7 : decode code (pc + 7) = .ok (.aload_n 0, 1)) (d8 : decode code (pc + 8) = .ok (.iload 4, 2)) (d10 : decode code (pc + 10) = .ok (.iconst 2, 1)) (d11 : decode code (pc + 11) = .ok (.iadd, 1)) (d12 : decode code (pc + 12) = .ok (.iaload, 1)) (d13 : decode code (pc + 13) = .ok (.aload_n 0, 1)) (d14 : decode code (pc + 14) = .ok (.iload 4, 2)) (d16 : decode code (pc + 16) = .ok (.iconst 3, 1)) (d17 : decode code (pc + 17) = .ok (.iadd, 1)) (d18 : decode code (pc + 18) = .ok (.iaload, 1)) (d19 : decode code (pc + 19) = .ok (.invokevirtual i1, 3)) (d22 : decode code (pc + 22) = .ok (.aload_n 2, 1)) (d23 : decode code (pc + 23) = .ok (.aload_n 0, 1)) (d24 : decode code (pc + 24) = .ok (.iload 4, 2)) (d26 : decode code (pc + 26) = .ok (.iconst 1, 1)) (d27 : decode code (pc + 27) = .ok (.iadd, 1)) (d28 : decode code (pc + 28) = .ok (.iaload, 1)) (d29 : decode code (pc + 29) = .ok (.aload_n 0, 1)) (d30 : decode code (pc + 30) = .ok (.iload 4, 2)) (d32 : decode code (pc + 32) = .ok (.iconst 2, 1)) (d33 : decode code (pc + 33) = .ok (.iadd, 1)) (d34 : decode code (pc + 34) = .ok (.iaload, 1)) (d35 : decode code (pc + 35) = .ok (.aload_n 0, 1)) (d36 : decode code (pc + 36) = .ok (.iload 4, 2)) (d38 : decode code (pc + 38) = .ok (.iconst 3, 1)) (d39 : decode code (pc + 39) = .ok (.iadd, 1)) (d40 : decode code (pc + 40) = .ok (.iaload, 1)) (d41 : decode code (pc + 41) = .ok (.invokevirtual i2, 3)) (d44 : decode code (pc + 44) = .ok (.if_icmp .eq off, 3)) (ht : ((pc + 44 : Nat) : Int) + off = ((2033 : Nat) : Int))
    (hl : lv_has ls 7 [(0, .ref b), (1, .ref qx), (2, .ref qm), (3, .ref qo), (4, .int (iI i))]) (hP : va_P E.1 classes (WL E qx qm qo u v σ τ lo) H) (hD : va_D A (WL E qx qm qo u v σ τ lo)) (hS : va_S A s.heap H locs)
    (kk : ∀ (H1 : Heap) (locs1 : List Loc), va_P E.1 classes (WL E qx qm qo u v σ2 τ2 lo) H1 → va_D A (WL E qx qm qo u v σ2 τ2 lo) → va_S A s.heap H1 locs1 → W p l e room_1 s m args below meth c H1 locs1 cells slots Q (F0 m 2033 ls [])) :
    W p l e room_1 s m args below meth c H locs cells slots Q (F0 m pc ls []) := by
  have hx := C.1
  have hb := C.2.1
  obtain ⟨fx, hrx⟩ := @WL_x E qx qm qo u v σ τ lo
  obtain ⟨fm, hrm⟩ := @WL_m E qx qm qo u v σ2 τ lo
  have ei1 : iI i + 1 = iI ((i + 1 : Nat) : Int) := by rw [li_1, iI_add]; rfl
  have hi1 : vp_in (iI ((i + 1 : Nat) : Int)) L := vin_in (vin_i (by omega) (by omega) (by omega))
  have ci1 : (iI ((i + 1 : Nat) : Int)).toNatClampNeg = i + 1 := by rw [iI_clamp (by omega) (by omega)]; omega
  have ei2 : iI i + 2 = iI ((i + 2 : Nat) : Int) := by rw [li_2, iI_add]; rfl
  have hi2 : vp_in (iI ((i + 2 : Nat) : Int)) L := vin_in (vin_i (by omega) (by omega) (by omega))
  have ci2 : (iI ((i + 2 : Nat) : Int)).toNatClampNeg = i + 2 := by rw [iI_clamp (by omega) (by omega)]; omega
  have ei3 : iI i + 3 = iI ((i + 3 : Nat) : Int) := by rw [li_3, iI_add]; rfl
  have hi3 : vp_in (iI ((i + 3 : Nat) : Int)) L := vin_in (vin_i (by omega) (by omega) (by omega))
  have ci3 : (iI ((i + 3 : Nat) : Int)).toNatClampNeg = i + 3 := by rw [iI_clamp (by omega) (by omega)]; omega
  refine lv_aload_n hx hb d0 rfl (lv_at hl 1 rfl) ?_
  refine lv_aload_n hx hb d1 rfl (lv_at hl 0 rfl) ?_
  refine lv_iload hx hb d2 (lv_at hl 4 rfl) ?_
  refine lv_iconst (v := 1) hx hb d4 (by decide) ?_
  refine lv_iadd hx hb d5 ?_
  rw [ei1]
  refine va_sld hx hb hX hbl hbA hS hi1 d6 ?_
  rw [ci1]
  refine lv_aload_n hx hb d7 rfl (lv_at hl 0 rfl) ?_
  refine lv_iload hx hb d8 (lv_at hl 4 rfl) ?_
  refine lv_iconst (v := 2) hx hb d10 (by decide) ?_
  refine lv_iadd hx hb d11 ?_
  rw [ei2]
  refine va_sld hx hb hX hbl hbA hS hi2 d12 ?_
  rw [ci2]
  refine lv_aload_n hx hb d13 rfl (lv_at hl 0 rfl) ?_
  refine lv_iload hx hb d14 (lv_at hl 4 rfl) ?_
  refine lv_iconst (v := 3) hx hb d16 (by decide) ?_
  refine lv_iadd hx hb d17 ?_
  rw [ei3]
  refine va_sld hx hb hX hbl hbA hS hi3 d18 ?_
  rw [ci3]
  refine k_L (As := [.int (xs (i + 1)), .int (xs (i + 2)), .int (xs (i + 3))]) C KX hR1 hcl hsl (CX.x qm qo v τ lo) (by rw [WL_len, WL_len]) (ci := 11) rfl (by rw [cx]; rfl) hrx hP hD hS hA hl.1 (Nat.le_of_ble_eq_true rfl) rfl d19 (fun H locs hP hD hS => ?_)
  refine lv_aload_n hx hb d22 rfl (lv_at hl 2 rfl) ?_
  refine lv_aload_n hx hb d23 rfl (lv_at hl 0 rfl) ?_
  refine lv_iload hx hb d24 (lv_at hl 4 rfl) ?_
  refine lv_iconst (v := 1) hx hb d26 (by decide) ?_
  refine lv_iadd hx hb d27 ?_
  rw [ei1]
  refine va_sld hx hb hX hbl hbA hS hi1 d28 ?_
  rw [ci1]
  refine lv_aload_n hx hb d29 rfl (lv_at hl 0 rfl) ?_
  refine lv_iload hx hb d30 (lv_at hl 4 rfl) ?_
  refine lv_iconst (v := 2) hx hb d32 (by decide) ?_
  refine lv_iadd hx hb d33 ?_
  rw [ei2]
  refine va_sld hx hb hX hbl hbA hS hi2 d34 ?_
  rw [ci2]
  refine lv_aload_n hx hb d35 rfl (lv_at hl 0 rfl) ?_
  refine lv_iload hx hb d36 (lv_at hl 4 rfl) ?_
  refine lv_iconst (v := 3) hx hb d38 (by decide) ?_
  refine lv_iadd hx hb d39 ?_
  rw [ei3]
  refine va_sld hx hb hX hbl hbA hS hi3 d40 ?_
  rw [ci3]
  refine k_L (As := [.int (xs (i + 1)), .int (xs (i + 2)), .int (xs (i + 3))]) C KY hR2 hcl hsl (CY.m qx qo u σ2 lo) (by rw [WL_len, WL_len]) (ci := 12) rfl (by rw [cy]; rfl) hrm hP hD hS hA hl.1 (Nat.le_of_ble_eq_true rfl) rfl d41 (fun H locs hP hD hS => ?_)
  refine lv_icmp_eq (tgt := 2033) hx hb d44 ht (fun _ => ?_) (fun z => absurd rfl z)
  exact kk H locs hP hD hS
set_option maxHeartbeats 4000000 in
theorem law_c4 {p : Program} {l : Launch} {e : Env} {s : State} {m : MethodId} {args : Array Value} {below : List Frame} {meth : Method} {c : Code} {H : Heap} {locs : List Loc} {cells slots : Nat} {Q : State → Prop} {E : ENV} {A : Nat → Prop} {b L qx qm qo : Nat} {u v : List Nat} {xs : Nat → Int32} {σ σ2 : CS} {τ τ2 : MS} {lo : Nat → Int64} {ls : Array Slot} {i pc i1 i2 d1 d2 n1 n2 : Nat} {off : Int} {y1 y2 : MethodName} {cc1 cc2 : ByteArray} {r1 r2 : Option FieldType} {rv : Int32}
    (C : CxL E A p s m args c) (hX : va_X b L xs s s.heap) (hbl : b < s.heap.size) (hbA : ¬ A b) (hA : ∀ q, s.heap.size ≤ q → A q) (hcl : cells ≤ room_1.cells) (hsl : slots ≤ room_1.slots) (hi : i + 5 ≤ L) (hL : L ≤ 2560)
    (KX : KV R_law i1 y1 cc1 n1 r1 4) (cx : y1.cls = "SnowForSummer") (hR1 : (rmd d1).frames + 1 ≤ room_1.frames ∧ 8 + (n1 + 11) + (rmd d1).locals ≤ room_1.locals) (CX : CI l E y1 cc1 n1 r1 d1 [.ref qx, .int (xs (i + 1)), .int (xs (i + 2)), .int (xs (i + 3)), .int (xs (i + 4))] (WC E qx u σ) (WC E qx u σ2) rv)
    (KY : KV R_law i2 y2 cc2 n2 r2 4) (cy : y2.cls = "SnowForSummerModel") (hR2 : (rmd d2).frames + 1 ≤ room_1.frames ∧ 8 + (n2 + 11) + (rmd d2).locals ≤ room_1.locals) (CY : CI l E y2 cc2 n2 r2 d2 [.ref qm, .int (xs (i + 1)), .int (xs (i + 2)), .int (xs (i + 3)), .int (xs (i + 4))] (WM E qm v τ) (WM E qm v τ2) rv)
    (d0 : decode code pc = .ok (.aload_n 1, 1)) (d1 : decode code (pc + 1) = .ok (.aload_n 0, 1)) (d2 : decode code (pc + 2) = .ok (.iload 4, 2)) (d4 : decode code (pc + 4) = .ok (.iconst 1, 1)) (d5 : decode code (pc + 5) = .ok (.iadd, 1)) (d6 : decode code (pc + 6) = .ok (.iaload, 1)) (d7 : decode code (pc + 7) = .ok (.aload_n 0, 1)) (d8 : decode code (pc + 8) = .ok (.iload 4, 2)) (d10 : decode code (pc + 10) = .ok (.iconst 2, 1)) (d11 : decode code (pc + 11) = .ok (.iadd, 1)) (d12 : decode code (pc + 12) = .ok (.iaload, 1)) (d13 : decode code (pc + 13) = .ok (.aload_n 0, 1)) (d14 : decode code (pc + 14) = .ok (.iload 4, 2)) (d16 : decode code (pc + 16) = .ok (.iconst 3, 1)) (d17 : decode code (pc + 17) = .ok (.iadd, 1)) (d18 : decode code (pc + 18) = .ok (.iaload, 1)) (d19 : decode code (pc + 19) = .ok (.aload_n 0, 1)) (d20 : decode code (pc + 20) = .ok (.iload 4, 2)) (d22 : decode code (pc + 22) = .ok (.iconst 4, 1)) (d23 : decode code (pc + 23) = .ok (.iadd, 1)) (d24 : decode code (pc + 24) = .ok (.iaload, 1)) (d25 : decode code (pc + 25) = .ok (.invokevirtual i1, 3)) (d28 : decode code (pc + 28) = .ok (.aload_n 2, 1)) (d29 : decode code (pc + 29) = .ok (.aload_n 0, 1)) (d30 : decode code (pc + 30) = .ok (.iload 4, 2)) (d32 : decode code (pc + 32) = .ok (.iconst 1, 1)) (d33 : decode code (pc + 33) = .ok (.iadd, 1)) (d34 : decode code (pc + 34) = .ok (.iaload, 1)) (d35 : decode code (pc + 35) = .ok (.aload_n 0, 1)) (d36 : decode code (pc + 36) = .ok (.iload 4, 2)) (d38 : decode code (pc + 38) = .ok (.iconst 2, 1)) (d39 : decode code (pc + 39) = .ok (.iadd, 1)) (d40 : decode code (pc + 40) = .ok (.iaload, 1)) (d41 : decode code (pc + 41) = .ok (.aload_n 0, 1)) (d42 : decode code (pc + 42) = .ok (.iload 4, 2)) (d44 : decode code (pc + 44) = .ok (.iconst 3, 1)) (d45 : decode code (pc + 45) = .ok (.iadd, 1)) (d46 : decode code (pc + 46) = .ok (.iaload, 1)) (d47 : decode code (pc + 47) = .ok (.aload_n 0, 1)) (d48 : decode code (pc + 48) = .ok (.iload 4, 2)) (d50 : decode code (pc + 50) = .ok (.iconst 4, 1)) (d51 : decode code (pc + 51) = .ok (.iadd, 1)) (d52 : decode code (pc + 52) = .ok (.iaload, 1)) (d53 : decode code (pc + 53) = .ok (.invokevirtual i2, 3)) (d56 : decode code (pc + 56) = .ok (.if_icmp .eq off, 3)) (ht : ((pc + 56 : Nat) : Int) + off = ((2033 : Nat) : Int))
    (hl : lv_has ls 7 [(0, .ref b), (1, .ref qx), (2, .ref qm), (3, .ref qo), (4, .int (iI i))]) (hP : va_P E.1 classes (WL E qx qm qo u v σ τ lo) H) (hD : va_D A (WL E qx qm qo u v σ τ lo)) (hS : va_S A s.heap H locs)
    (kk : ∀ (H1 : Heap) (locs1 : List Loc), va_P E.1 classes (WL E qx qm qo u v σ2 τ2 lo) H1 → va_D A (WL E qx qm qo u v σ2 τ2 lo) → va_S A s.heap H1 locs1 → W p l e room_1 s m args below meth c H1 locs1 cells slots Q (F0 m 2033 ls [])) :
    W p l e room_1 s m args below meth c H locs cells slots Q (F0 m pc ls []) := by
  have hx := C.1
  have hb := C.2.1
  obtain ⟨fx, hrx⟩ := @WL_x E qx qm qo u v σ τ lo
  obtain ⟨fm, hrm⟩ := @WL_m E qx qm qo u v σ2 τ lo
  have ei1 : iI i + 1 = iI ((i + 1 : Nat) : Int) := by rw [li_1, iI_add]; rfl
  have hi1 : vp_in (iI ((i + 1 : Nat) : Int)) L := vin_in (vin_i (by omega) (by omega) (by omega))
  have ci1 : (iI ((i + 1 : Nat) : Int)).toNatClampNeg = i + 1 := by rw [iI_clamp (by omega) (by omega)]; omega
  have ei2 : iI i + 2 = iI ((i + 2 : Nat) : Int) := by rw [li_2, iI_add]; rfl
  have hi2 : vp_in (iI ((i + 2 : Nat) : Int)) L := vin_in (vin_i (by omega) (by omega) (by omega))
  have ci2 : (iI ((i + 2 : Nat) : Int)).toNatClampNeg = i + 2 := by rw [iI_clamp (by omega) (by omega)]; omega
  have ei3 : iI i + 3 = iI ((i + 3 : Nat) : Int) := by rw [li_3, iI_add]; rfl
  have hi3 : vp_in (iI ((i + 3 : Nat) : Int)) L := vin_in (vin_i (by omega) (by omega) (by omega))
  have ci3 : (iI ((i + 3 : Nat) : Int)).toNatClampNeg = i + 3 := by rw [iI_clamp (by omega) (by omega)]; omega
  have ei4 : iI i + 4 = iI ((i + 4 : Nat) : Int) := by rw [li_4, iI_add]; rfl
  have hi4 : vp_in (iI ((i + 4 : Nat) : Int)) L := vin_in (vin_i (by omega) (by omega) (by omega))
  have ci4 : (iI ((i + 4 : Nat) : Int)).toNatClampNeg = i + 4 := by rw [iI_clamp (by omega) (by omega)]; omega
  refine lv_aload_n hx hb d0 rfl (lv_at hl 1 rfl) ?_
  refine lv_aload_n hx hb d1 rfl (lv_at hl 0 rfl) ?_
  refine lv_iload hx hb d2 (lv_at hl 4 rfl) ?_
  refine lv_iconst (v := 1) hx hb d4 (by decide) ?_
  refine lv_iadd hx hb d5 ?_
  rw [ei1]
  refine va_sld hx hb hX hbl hbA hS hi1 d6 ?_
  rw [ci1]
  refine lv_aload_n hx hb d7 rfl (lv_at hl 0 rfl) ?_
  refine lv_iload hx hb d8 (lv_at hl 4 rfl) ?_
  refine lv_iconst (v := 2) hx hb d10 (by decide) ?_
  refine lv_iadd hx hb d11 ?_
  rw [ei2]
  refine va_sld hx hb hX hbl hbA hS hi2 d12 ?_
  rw [ci2]
  refine lv_aload_n hx hb d13 rfl (lv_at hl 0 rfl) ?_
  refine lv_iload hx hb d14 (lv_at hl 4 rfl) ?_
  refine lv_iconst (v := 3) hx hb d16 (by decide) ?_
  refine lv_iadd hx hb d17 ?_
  rw [ei3]
  refine va_sld hx hb hX hbl hbA hS hi3 d18 ?_
  rw [ci3]
  refine lv_aload_n hx hb d19 rfl (lv_at hl 0 rfl) ?_
  refine lv_iload hx hb d20 (lv_at hl 4 rfl) ?_
  refine lv_iconst (v := 4) hx hb d22 (by decide) ?_
  refine lv_iadd hx hb d23 ?_
  rw [ei4]
  refine va_sld hx hb hX hbl hbA hS hi4 d24 ?_
  rw [ci4]
  refine k_L (As := [.int (xs (i + 1)), .int (xs (i + 2)), .int (xs (i + 3)), .int (xs (i + 4))]) C KX hR1 hcl hsl (CX.x qm qo v τ lo) (by rw [WL_len, WL_len]) (ci := 11) rfl (by rw [cx]; rfl) hrx hP hD hS hA hl.1 (Nat.le_of_ble_eq_true rfl) rfl d25 (fun H locs hP hD hS => ?_)
  refine lv_aload_n hx hb d28 rfl (lv_at hl 2 rfl) ?_
  refine lv_aload_n hx hb d29 rfl (lv_at hl 0 rfl) ?_
  refine lv_iload hx hb d30 (lv_at hl 4 rfl) ?_
  refine lv_iconst (v := 1) hx hb d32 (by decide) ?_
  refine lv_iadd hx hb d33 ?_
  rw [ei1]
  refine va_sld hx hb hX hbl hbA hS hi1 d34 ?_
  rw [ci1]
  refine lv_aload_n hx hb d35 rfl (lv_at hl 0 rfl) ?_
  refine lv_iload hx hb d36 (lv_at hl 4 rfl) ?_
  refine lv_iconst (v := 2) hx hb d38 (by decide) ?_
  refine lv_iadd hx hb d39 ?_
  rw [ei2]
  refine va_sld hx hb hX hbl hbA hS hi2 d40 ?_
  rw [ci2]
  refine lv_aload_n hx hb d41 rfl (lv_at hl 0 rfl) ?_
  refine lv_iload hx hb d42 (lv_at hl 4 rfl) ?_
  refine lv_iconst (v := 3) hx hb d44 (by decide) ?_
  refine lv_iadd hx hb d45 ?_
  rw [ei3]
  refine va_sld hx hb hX hbl hbA hS hi3 d46 ?_
  rw [ci3]
  refine lv_aload_n hx hb d47 rfl (lv_at hl 0 rfl) ?_
  refine lv_iload hx hb d48 (lv_at hl 4 rfl) ?_
  refine lv_iconst (v := 4) hx hb d50 (by decide) ?_
  refine lv_iadd hx hb d51 ?_
  rw [ei4]
  refine va_sld hx hb hX hbl hbA hS hi4 d52 ?_
  rw [ci4]
  refine k_L (As := [.int (xs (i + 1)), .int (xs (i + 2)), .int (xs (i + 3)), .int (xs (i + 4))]) C KY hR2 hcl hsl (CY.m qx qo u σ2 lo) (by rw [WL_len, WL_len]) (ci := 12) rfl (by rw [cy]; rfl) hrm hP hD hS hA hl.1 (Nat.le_of_ble_eq_true rfl) rfl d53 (fun H locs hP hD hS => ?_)
  refine lv_icmp_eq (tgt := 2033) hx hb d56 ht (fun _ => ?_) (fun z => absurd rfl z)
  exact kk H locs hP hD hS
