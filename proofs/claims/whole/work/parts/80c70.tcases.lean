section LWH
variable {p : Program} {l : Launch} {e : Env} {R : Room} {s : State} {m : MethodId} {args : Array Value} {below : List Frame} {meth : Method} {c : Code} {H : Heap} {locs : List Loc} {cells slots : Nat} {Q : State → Prop}
variable {E : ENV} {pc : Nat} {ls : Array Slot} {rest : List Value} {A : Nat → Prop} {ws ws' : va_W} {idx : Nat}
variable {y1 : MethodName} {cc1 : ByteArray} {n1 : Nat} {As : List Value} {rv : Int32} {hh : List (Nat × Nat × Nat × Nat)}
def KH (idx : Nat) (y1 : MethodName) (cc1 : ByteArray) (n1 : Nat) (hh : List (Nat × Nat × Nat × Nat)) (k : Nat) : Prop :=
  Cond.codeWith y1 cc1 n1 (some .int) hh ∈ Tg ∧ Cond.initialized y1.cls ∈ Tg ∧ Cond.methodLink R_law idx y1 ∈ Tg ∧ Cond.static y1 ∈ Tg ∧ (y1.cls ≠ "java/lang/invoke/MethodHandle" ∧ y1.cls ≠ "java/lang/invoke/VarHandle" ∧ (parseMethodDescriptor y1.desc).map (fun d => d.parameters.length) = some k)
theorem k_LH (C : CxL E A p s m args c) (K : KH idx y1 cc1 n1 hh As.length) (hR9 : (rmc 120 1 6).frames + 1 ≤ R.frames ∧ 8 + (n1 + 11) + (rmc 120 1 6).locals ≤ R.locals) (hcl : cells + 1 ≤ R.cells) (hsl : slots + 6 ≤ R.slots) (hc : CHm l E y1 cc1 n1 hh As ws ws' rv) (hl : ws.length = ws'.length)
    (hP : va_P E.1 classes ws H) (hD : va_D A ws) (hS : va_S A s.heap H locs) (hA : ∀ q, s.heap.size ≤ q → A q) (hls : ls.size = 7) (hst : (rest.map fun v => v.category).sum ≤ 8) {st0 : List Value} (hst0 : st0 = As.reverse ++ rest) (hdg : decode code pc = .ok (.invokestatic idx, 3))
    (kk : ∀ (H1 : Heap) (locs1 : List Loc), va_P E.1 classes ws' H1 → va_D A ws' → va_S A s.heap H1 locs1 → W p l e R s m args below meth c H1 locs1 (cells + 1) (slots + 6) Q (F0 m (pc + 3) ls (.int rv :: rest))) :
    W p l e R s m args below meth c H locs cells slots Q (F0 m pc ls st0) := by
  subst hst0
  obtain ⟨hx, hb, hml, hown, hts, hK, hN, hO, hT9, hAO⟩ := C
  obtain ⟨k1, k2, k3, k4, k5⟩ := K
  have hFc := va_free (wc := ws) hD hS hA (List.range ws.length) (range_get ws)
  have hG : GoodIn Tg (va_wsS R_law idx y1 (Cond.codeWith y1 cc1 n1 (some .int) hh :: Tg)) := by
    intro w hw
    have hw2 : w ∈ Tg := by
      unfold va_wsS at hw
      rcases List.mem_append.1 hw with hw | hw
      · rcases List.mem_cons.1 hw with rfl | hw
        · exact k3
        · rcases List.mem_cons.1 hw with rfl | hw
          · exact k4
          · rw [List.mem_singleton] at hw
            rw [hw]
            exact k2
      · rcases List.mem_cons.1 hw with rfl | hw
        · exact k1
        · exact hw
    exact ⟨hw2, good_of_word (List.mem_filter.mp hw2).2⟩
  have cw : vx_CSW R s args R_law idx y1 cc1 n1 (some .int) hh (Cond.codeWith y1 cc1 n1 (some .int) hh :: Tg) (rmc 120 1 6) 1 6 As.length := vx_cwSW As.length hts hG rfl rfl rfl k5 hR9
  refine vx_calli (vx_runSX (As := As) (rest := rest) (Pc := PrX E As ws H.size) ⟨hx, hb, hml, hown, hts⟩ (hc H.size) cw ⟨PrX.blind, fun U hU hW => ⟨⟨rfl, by rw [hU], ⟨hN.warm hW, by rw [hU]; exact hO.go hS.2.1 hFc hW⟩, by rw [hU]; exact hP, va_K.moved hW.alike hK, hD.weaken (fun _ _ _ _ => trivial)⟩, by rw [hU]; exact hT9.go hS.2.1 hFc hW⟩⟩ rfl rfl hls rfl (lv_room hst) hdg ⟨hcl, hsl⟩) hS (fun q _ h => hFc q h) hFc (fun q _ h => h.elim) (fun E9 ce q9 u t H1 locs1 ht hvm hpx => hpx.elim) (fun r u t H1 locs1 ht hvm hw hB hz1 hk1 hS => ?_)
  obtain ⟨hP1, hK1, hD1⟩ := hB
  rw [ht] at hP1
  subst hw
  obtain ⟨hP, hD⟩ := putC_join hP hD (List.range ws.length) (range_get ws) (nd_range _) (by rw [List.length_range]; exact hl) hk1 hFc hP1 hD1
  rw [putC_all ws ws' hl] at hP hD
  exact kk H1 locs1 hP hD hS
end LWH
set_option maxRecDepth 20000 in
theorem Y_thrown (l : Launch) (E : ENV) (q0 : Nat) (u : List Nat) (τ : MS) : CI l E yX12_thrown cX12_thrown 1 (some .int) 0 [.ref q0] (WM E q0 u τ) (WM E q0 u τ) (τ.1 19) :=
  CI.frame2 (kX12_thrown l E q0 (u.getD 0 0) (u.getD 1 0) (u.getD 2 0) (u.getD 3 0) (u.getD 4 0) (u.getD 5 0) (u.getD 6 0) (u.getD 7 0) (u.getD 8 0) (u.getD 9 0) (u.getD 10 0) (u.getD 11 0) (u.getD 12 0) (u.getD 13 0) (u.getD 14 0) (u.getD 15 0) (u.getD 16 0) (u.getD 17 0) (u.getD 18 0) (u.getD 19 0) (u.getD 20 0) (u.getD 21 0) (u.getD 22 0) (u.getD 23 0) (u.getD 24 0) (τ.1 9) (τ.1 24) (τ.1 22) (τ.1 14) (τ.1 19) (rdv τ.2.2 (u.getD 5 0) (u.getD 8 0)) (τ.1 11) (τ.1 20) (τ.1 6) (τ.1 25) (τ.1 15) (τ.1 10) (τ.1 2) (τ.1 4) (τ.1 1) (τ.1 5) (τ.1 0) (τ.1 3) (τ.1 18) (τ.1 13) (τ.1 17) (τ.1 23) (τ.1 7) (τ.1 16) (τ.1 12) (τ.1 21) (τ.1 8) (τ.1 19) rfl) [0] rfl rfl rfl 26 [1, 2, 3, 4, 5, 6, 7, 8, 9, 10, 11, 12, 13, 14, 15, 16, 17, 18, 19, 20, 21, 22, 23, 24, 25] rfl rfl rfl rfl (by decide +kernel)
theorem K_law_68 : KV R_law 68 yX12_thrown cX12_thrown 1 (some .int) 0 := ⟨Tg_mem 1487 (by decide +kernel) (by decide +kernel), Tg_mem 102 (by decide +kernel) (by decide +kernel), Tg_mem 1484 (by decide +kernel) (by decide +kernel), Tg_mem 1485 (by decide +kernel) (by decide +kernel), Tg_mem 1486 (by decide +kernel) (by decide +kernel), by decide +kernel⟩
theorem lc_0 (x : Int64) : lg_cmp x x = 0 := by
  unfold lg_cmp
  simp
set_option maxHeartbeats 4000000 in
theorem law_t1_0 {p : Program} {l : Launch} {e : Env} {s : State} {m : MethodId} {args : Array Value} {below : List Frame} {meth : Method} {c : Code} {H : Heap} {locs : List Loc} {cells slots : Nat} {Q : State → Prop} {E : ENV} {A : Nat → Prop} {b L qx qm qo : Nat} {u v : List Nat} {xs : Nat → Int32} {σ σ2 : CS} {τ τ2 : MS} {lo lo2 : Nat → Int64} {ls : Array Slot} {i pc i1 i2 d2 n1 n2 : Nat} {N off : Int} {y1 y2 : MethodName} {cc1 cc2 : ByteArray} {r2 : Option FieldType} {rb : Int32} {hh : List (Nat × Nat × Nat × Nat)}
    (C : CxL E A p s m args c) (hX : va_X b L xs s s.heap) (hbl : b < s.heap.size) (hbA : ¬ A b) (hA : ∀ q, s.heap.size ≤ q → A q) (hcl : cells + 1 ≤ room_1.cells) (hsl : slots + 6 ≤ room_1.slots) (hi : i + 5 ≤ L) (hL : L ≤ 2560)
    (KH1 : KH i1 y1 cc1 n1 hh 3) (hn1 : 8 + (n1 + 11) + (rmc 120 1 6).locals ≤ room_1.locals) (CH : CHm l E y1 cc1 n1 hh [.ref qx, .int (xs (i + 1)), .ref qo] (WL E qx qm qo u v σ τ lo) (WL E qx qm qo u v σ2 τ lo2) 0)
    (KY : KV R_law i2 y2 cc2 n2 r2 1) (cy : y2.cls = "SnowForSummerModel") (hR2 : (rmd d2).frames + 1 ≤ room_1.frames ∧ 8 + (n2 + 11) + (rmd d2).locals ≤ room_1.locals) (CY : CI l E y2 cc2 n2 r2 d2 [.ref qm, .int (xs (i + 1))] (WM E qm v τ) (WM E qm v τ2) rb)
    (th : τ2.1 19 = 0) (lv0 : lo2 0 = rb.toInt64) (hR2R : R (N + 1) σ2 τ2)
    (d0 : decode code pc = .ok (.aload_n 1, 1)) (d1 : decode code (pc + 1) = .ok (.aload_n 0, 1)) (d2 : decode code (pc + 2) = .ok (.iload 4, 2)) (d4 : decode code (pc + 4) = .ok (.iconst 1, 1)) (d5 : decode code (pc + 5) = .ok (.iadd, 1)) (d6 : decode code (pc + 6) = .ok (.iaload, 1)) (d7 : decode code (pc + 7) = .ok (.aload_n 3, 1)) (d8 : decode code (pc + 8) = .ok (.invokestatic i1, 3)) (d11 : decode code (pc + 11) = .ok (.istore 5, 2)) (d13 : decode code (pc + 13) = .ok (.aload_n 2, 1)) (d14 : decode code (pc + 14) = .ok (.aload_n 0, 1)) (d15 : decode code (pc + 15) = .ok (.iload 4, 2)) (d17 : decode code (pc + 17) = .ok (.iconst 1, 1)) (d18 : decode code (pc + 18) = .ok (.iadd, 1)) (d19 : decode code (pc + 19) = .ok (.iaload, 1)) (d20 : decode code (pc + 20) = .ok (.invokevirtual i2, 3)) (d23 : decode code (pc + 23) = .ok (.istore 6, 2)) (d25 : decode code (pc + 25) = .ok (.aload_n 2, 1)) (d26 : decode code (pc + 26) = .ok (.invokevirtual 68, 3)) (d29 : decode code (pc + 29) = .ok (.iload 5, 2)) (d31 : decode code (pc + 31) = .ok (.if_icmp .eq 5, 3)) (d36 : decode code (pc + 36) = .ok (.iload 5, 2)) (d38 : decode code (pc + 38) = .ok (.ifCond .ne 15, 3)) (d41 : decode code (pc + 41) = .ok (.aload_n 3, 1)) (d42 : decode code (pc + 42) = .ok (.iconst 0, 1)) (d43 : decode code (pc + 43) = .ok (.laload, 1)) (d44 : decode code (pc + 44) = .ok (.iload 6, 2)) (d46 : decode code (pc + 46) = .ok (.i2l, 1)) (d47 : decode code (pc + 47) = .ok (.lcmp, 1)) (d48 : decode code (pc + 48) = .ok (.ifCond .eq 5, 3)) (d53 : decode code (pc + 53) = .ok (.goto off, 3)) (ht : ((pc + 53 : Nat) : Int) + off = ((2033 : Nat) : Int))
    (hl : lv_has ls 7 [(0, .ref b), (1, .ref qx), (2, .ref qm), (3, .ref qo), (4, .int (iI i))]) (hP : va_P E.1 classes (WL E qx qm qo u v σ τ lo) H) (hD : va_D A (WL E qx qm qo u v σ τ lo)) (hS : va_S A s.heap H locs)
    (kk : ∀ (σ2 : CS) (τ2 : MS) (lo2 : Nat → Int64) (cells2 slots2 : Nat) (ls2 : Array Slot), R (N + 1) σ2 τ2 → cells2 ≤ cells + 1 → slots2 ≤ slots + 6 → lv_has ls2 7 [(0, .ref b), (1, .ref qx), (2, .ref qm), (3, .ref qo), (4, .int (iI i))] → ∀ (H1 : Heap) (locs1 : List Loc), va_P E.1 classes (WL E qx qm qo u v σ2 τ2 lo2) H1 → va_D A (WL E qx qm qo u v σ2 τ2 lo2) → va_S A s.heap H1 locs1 → W p l e room_1 s m args below meth c H1 locs1 cells2 slots2 Q (F0 m 2033 ls2 [])) :
    W p l e room_1 s m args below meth c H locs cells slots Q (F0 m pc ls []) := by
  have hx := C.1
  have hb := C.2.1
  have hK := C.2.2.2.2.2.1
  obtain ⟨fm, hrm⟩ := @WL_m E qx qm qo u v σ2 τ lo2
  obtain ⟨fm2, hrm2⟩ := @WL_m E qx qm qo u v σ2 τ2 lo2
  have ei1 : iI i + 1 = iI ((i + 1 : Nat) : Int) := by rw [li_1, iI_add]; rfl
  have hi1 : vp_in (iI ((i + 1 : Nat) : Int)) L := vin_in (vin_i (by omega) (by omega) (by omega))
  have ci1 : (iI ((i + 1 : Nat) : Int)).toNatClampNeg = i + 1 := by rw [iI_clamp (by omega) (by omega)]; omega
  refine lv_aload_n hx hb d0 rfl (lv_at hl 1 rfl) ?_
  refine lv_aload_n hx hb d1 rfl (lv_at hl 0 rfl) ?_
  refine lv_iload hx hb d2 (lv_at hl 4 rfl) ?_
  refine lv_iconst (v := 1) hx hb d4 (by decide) ?_
  refine lv_iadd hx hb d5 ?_
  rw [ei1]
  refine va_sld hx hb hX hbl hbA hS hi1 d6 ?_
  rw [ci1]
  refine lv_aload_n hx hb d7 rfl (lv_at hl 3 rfl) ?_
  refine k_LH (As := [.ref qx, .int (xs (i + 1)), .ref qo]) (rest := []) C KH1 ⟨Nat.le_of_ble_eq_true rfl, hn1⟩ hcl hsl CH (by rw [WL_len, WL_len]) hP hD hS hA hl.1 (Nat.le_of_ble_eq_true rfl) rfl d8 (fun H locs hP hD hS => ?_)
  refine lv_istore (lv' := [(5, .int 0), (0, .ref b), (1, .ref qx), (2, .ref qm), (3, .ref qo), (4, .int (iI i))]) hx hb d11 hl (by decide) rfl (fun ls hl => ?_)
  refine lv_aload_n hx hb d13 rfl (lv_at hl 3 rfl) ?_
  refine lv_aload_n hx hb d14 rfl (lv_at hl 1 rfl) ?_
  refine lv_iload hx hb d15 (lv_at hl 5 rfl) ?_
  refine lv_iconst (v := 1) hx hb d17 (by decide) ?_
  refine lv_iadd hx hb d18 ?_
  rw [ei1]
  refine va_sld hx hb hX hbl hbA hS hi1 d19 ?_
  rw [ci1]
  refine k_L (As := [.int (xs (i + 1))]) C KY hR2 hcl hsl (CY.m qx qo u σ2 lo2) (by rw [WL_len, WL_len]) (ci := 12) rfl (by rw [cy]; rfl) hrm hP hD hS hA hl.1 (Nat.le_of_ble_eq_true rfl) rfl d20 (fun H locs hP hD hS => ?_)
  refine lv_istore (lv' := [(6, .int rb), (5, .int 0), (0, .ref b), (1, .ref qx), (2, .ref qm), (3, .ref qo), (4, .int (iI i))]) hx hb d23 hl (by decide) rfl (fun ls hl => ?_)
  refine lv_aload_n hx hb d25 rfl (lv_at hl 4 rfl) ?_
  refine k_L (As := []) C K_law_68 ⟨Nat.le_of_ble_eq_true rfl, Nat.le_of_ble_eq_true rfl⟩ hcl hsl ((Y_thrown l E qm v τ2).m qx qo u σ2 lo2) rfl (ci := 12) rfl rfl hrm2 hP hD hS hA hl.1 (Nat.le_of_ble_eq_true rfl) rfl d26 (fun H locs hP hD hS => ?_)
  refine lv_iload hx hb d29 (lv_at hl 1 rfl) ?_
  refine lv_icmp_eq (tgt := pc + 36) hx hb d31 (by omega) (fun _ => ?_) (fun z => absurd th z)
  refine lv_iload hx hb d36 (lv_at hl 1 rfl) ?_
  refine lv_if_ne (tgt := pc + 53) hx hb d38 (by omega) (fun z => absurd rfl z) (fun _ => ?_)
  refine lv_aload_n hx hb d41 rfl (lv_at hl 5 rfl) ?_
  refine lv_iconst (v := 0) hx hb d42 (by decide) ?_
  refine va_lald hx hb hK hP 163 5 WL_o rfl (vin_in (by decide)) d43 ?_
  refine lv_iload hx hb d44 (lv_at hl 0 rfl) ?_
  refine lv_i2l (v := rb.toInt64) hx hb d46 rfl ?_
  refine W.lcmp hx hb d47 ?_
  rw [show lo2 (0 : Int32).toNatClampNeg = rb.toInt64 from lv0]
  refine lv_if_eq (tgt := pc + 53) hx hb d48 (by omega) (fun _ => ?_) (fun z => absurd (lc_0 _) z)
  refine lv_goto (tgt := 2033) hx hb d53 ht ?_
  exact kk σ2 τ2 lo2 _ _ ls hR2R (Nat.le_refl _) (Nat.le_refl _) (lv_sub hl [2, 3, 4, 5, 6] rfl) H locs hP hD hS
set_option maxHeartbeats 4000000 in
theorem law_t1_1 {p : Program} {l : Launch} {e : Env} {s : State} {m : MethodId} {args : Array Value} {below : List Frame} {meth : Method} {c : Code} {H : Heap} {locs : List Loc} {cells slots : Nat} {Q : State → Prop} {E : ENV} {A : Nat → Prop} {b L qx qm qo : Nat} {u v : List Nat} {xs : Nat → Int32} {σ σ2 : CS} {τ τ2 : MS} {lo lo2 : Nat → Int64} {ls : Array Slot} {i pc i1 i2 d2 n1 n2 : Nat} {N off : Int} {y1 y2 : MethodName} {cc1 cc2 : ByteArray} {r2 : Option FieldType} {rb : Int32} {hh : List (Nat × Nat × Nat × Nat)}
    (C : CxL E A p s m args c) (hX : va_X b L xs s s.heap) (hbl : b < s.heap.size) (hbA : ¬ A b) (hA : ∀ q, s.heap.size ≤ q → A q) (hcl : cells + 1 ≤ room_1.cells) (hsl : slots + 6 ≤ room_1.slots) (hi : i + 5 ≤ L) (hL : L ≤ 2560)
    (KH1 : KH i1 y1 cc1 n1 hh 3) (hn1 : 8 + (n1 + 11) + (rmc 120 1 6).locals ≤ room_1.locals) (CH : CHm l E y1 cc1 n1 hh [.ref qx, .int (xs (i + 1)), .ref qo] (WL E qx qm qo u v σ τ lo) (WL E qx qm qo u v σ2 τ lo2) 1)
    (KY : KV R_law i2 y2 cc2 n2 r2 1) (cy : y2.cls = "SnowForSummerModel") (hR2 : (rmd d2).frames + 1 ≤ room_1.frames ∧ 8 + (n2 + 11) + (rmd d2).locals ≤ room_1.locals) (CY : CI l E y2 cc2 n2 r2 d2 [.ref qm, .int (xs (i + 1))] (WM E qm v τ) (WM E qm v τ2) rb)
    (th : τ2.1 19 = 1) (hR2R : R (N + 1) σ2 τ2)
    (d0 : decode code pc = .ok (.aload_n 1, 1)) (d1 : decode code (pc + 1) = .ok (.aload_n 0, 1)) (d2 : decode code (pc + 2) = .ok (.iload 4, 2)) (d4 : decode code (pc + 4) = .ok (.iconst 1, 1)) (d5 : decode code (pc + 5) = .ok (.iadd, 1)) (d6 : decode code (pc + 6) = .ok (.iaload, 1)) (d7 : decode code (pc + 7) = .ok (.aload_n 3, 1)) (d8 : decode code (pc + 8) = .ok (.invokestatic i1, 3)) (d11 : decode code (pc + 11) = .ok (.istore 5, 2)) (d13 : decode code (pc + 13) = .ok (.aload_n 2, 1)) (d14 : decode code (pc + 14) = .ok (.aload_n 0, 1)) (d15 : decode code (pc + 15) = .ok (.iload 4, 2)) (d17 : decode code (pc + 17) = .ok (.iconst 1, 1)) (d18 : decode code (pc + 18) = .ok (.iadd, 1)) (d19 : decode code (pc + 19) = .ok (.iaload, 1)) (d20 : decode code (pc + 20) = .ok (.invokevirtual i2, 3)) (d23 : decode code (pc + 23) = .ok (.istore 6, 2)) (d25 : decode code (pc + 25) = .ok (.aload_n 2, 1)) (d26 : decode code (pc + 26) = .ok (.invokevirtual 68, 3)) (d29 : decode code (pc + 29) = .ok (.iload 5, 2)) (d31 : decode code (pc + 31) = .ok (.if_icmp .eq 5, 3)) (d36 : decode code (pc + 36) = .ok (.iload 5, 2)) (d38 : decode code (pc + 38) = .ok (.ifCond .ne 15, 3)) (d53 : decode code (pc + 53) = .ok (.goto off, 3)) (ht : ((pc + 53 : Nat) : Int) + off = ((2033 : Nat) : Int))
    (hl : lv_has ls 7 [(0, .ref b), (1, .ref qx), (2, .ref qm), (3, .ref qo), (4, .int (iI i))]) (hP : va_P E.1 classes (WL E qx qm qo u v σ τ lo) H) (hD : va_D A (WL E qx qm qo u v σ τ lo)) (hS : va_S A s.heap H locs)
    (kk : ∀ (σ2 : CS) (τ2 : MS) (lo2 : Nat → Int64) (cells2 slots2 : Nat) (ls2 : Array Slot), R (N + 1) σ2 τ2 → cells2 ≤ cells + 1 → slots2 ≤ slots + 6 → lv_has ls2 7 [(0, .ref b), (1, .ref qx), (2, .ref qm), (3, .ref qo), (4, .int (iI i))] → ∀ (H1 : Heap) (locs1 : List Loc), va_P E.1 classes (WL E qx qm qo u v σ2 τ2 lo2) H1 → va_D A (WL E qx qm qo u v σ2 τ2 lo2) → va_S A s.heap H1 locs1 → W p l e room_1 s m args below meth c H1 locs1 cells2 slots2 Q (F0 m 2033 ls2 [])) :
    W p l e room_1 s m args below meth c H locs cells slots Q (F0 m pc ls []) := by
  have hx := C.1
  have hb := C.2.1
  have hK := C.2.2.2.2.2.1
  obtain ⟨fm, hrm⟩ := @WL_m E qx qm qo u v σ2 τ lo2
  obtain ⟨fm2, hrm2⟩ := @WL_m E qx qm qo u v σ2 τ2 lo2
  have ei1 : iI i + 1 = iI ((i + 1 : Nat) : Int) := by rw [li_1, iI_add]; rfl
  have hi1 : vp_in (iI ((i + 1 : Nat) : Int)) L := vin_in (vin_i (by omega) (by omega) (by omega))
  have ci1 : (iI ((i + 1 : Nat) : Int)).toNatClampNeg = i + 1 := by rw [iI_clamp (by omega) (by omega)]; omega
  refine lv_aload_n hx hb d0 rfl (lv_at hl 1 rfl) ?_
  refine lv_aload_n hx hb d1 rfl (lv_at hl 0 rfl) ?_
  refine lv_iload hx hb d2 (lv_at hl 4 rfl) ?_
  refine lv_iconst (v := 1) hx hb d4 (by decide) ?_
  refine lv_iadd hx hb d5 ?_
  rw [ei1]
  refine va_sld hx hb hX hbl hbA hS hi1 d6 ?_
  rw [ci1]
  refine lv_aload_n hx hb d7 rfl (lv_at hl 3 rfl) ?_
  refine k_LH (As := [.ref qx, .int (xs (i + 1)), .ref qo]) (rest := []) C KH1 ⟨Nat.le_of_ble_eq_true rfl, hn1⟩ hcl hsl CH (by rw [WL_len, WL_len]) hP hD hS hA hl.1 (Nat.le_of_ble_eq_true rfl) rfl d8 (fun H locs hP hD hS => ?_)
  refine lv_istore (lv' := [(5, .int 1), (0, .ref b), (1, .ref qx), (2, .ref qm), (3, .ref qo), (4, .int (iI i))]) hx hb d11 hl (by decide) rfl (fun ls hl => ?_)
  refine lv_aload_n hx hb d13 rfl (lv_at hl 3 rfl) ?_
  refine lv_aload_n hx hb d14 rfl (lv_at hl 1 rfl) ?_
  refine lv_iload hx hb d15 (lv_at hl 5 rfl) ?_
  refine lv_iconst (v := 1) hx hb d17 (by decide) ?_
  refine lv_iadd hx hb d18 ?_
  rw [ei1]
  refine va_sld hx hb hX hbl hbA hS hi1 d19 ?_
  rw [ci1]
  refine k_L (As := [.int (xs (i + 1))]) C KY hR2 hcl hsl (CY.m qx qo u σ2 lo2) (by rw [WL_len, WL_len]) (ci := 12) rfl (by rw [cy]; rfl) hrm hP hD hS hA hl.1 (Nat.le_of_ble_eq_true rfl) rfl d20 (fun H locs hP hD hS => ?_)
  refine lv_istore (lv' := [(6, .int rb), (5, .int 1), (0, .ref b), (1, .ref qx), (2, .ref qm), (3, .ref qo), (4, .int (iI i))]) hx hb d23 hl (by decide) rfl (fun ls hl => ?_)
  refine lv_aload_n hx hb d25 rfl (lv_at hl 4 rfl) ?_
  refine k_L (As := []) C K_law_68 ⟨Nat.le_of_ble_eq_true rfl, Nat.le_of_ble_eq_true rfl⟩ hcl hsl ((Y_thrown l E qm v τ2).m qx qo u σ2 lo2) rfl (ci := 12) rfl rfl hrm2 hP hD hS hA hl.1 (Nat.le_of_ble_eq_true rfl) rfl d26 (fun H locs hP hD hS => ?_)
  refine lv_iload hx hb d29 (lv_at hl 1 rfl) ?_
  refine lv_icmp_eq (tgt := pc + 36) hx hb d31 (by omega) (fun _ => ?_) (fun z => absurd th z)
  refine lv_iload hx hb d36 (lv_at hl 1 rfl) ?_
  refine lv_if_ne (tgt := pc + 53) hx hb d38 (by omega) (fun _ => ?_) (fun z => absurd z (by decide))
  refine lv_goto (tgt := 2033) hx hb d53 ht ?_
  exact kk σ2 τ2 lo2 _ _ ls hR2R (Nat.le_refl _) (Nat.le_refl _) (lv_sub hl [2, 3, 4, 5, 6] rfl) H locs hP hD hS
set_option maxHeartbeats 4000000 in
theorem law_t2_0 {p : Program} {l : Launch} {e : Env} {s : State} {m : MethodId} {args : Array Value} {below : List Frame} {meth : Method} {c : Code} {H : Heap} {locs : List Loc} {cells slots : Nat} {Q : State → Prop} {E : ENV} {A : Nat → Prop} {b L qx qm qo : Nat} {u v : List Nat} {xs : Nat → Int32} {σ σ2 : CS} {τ τ2 : MS} {lo lo2 : Nat → Int64} {ls : Array Slot} {i pc i1 i2 d2 n1 n2 : Nat} {N off : Int} {y1 y2 : MethodName} {cc1 cc2 : ByteArray} {r2 : Option FieldType} {rb : Int32} {hh : List (Nat × Nat × Nat × Nat)}
    (C : CxL E A p s m args c) (hX : va_X b L xs s s.heap) (hbl : b < s.heap.size) (hbA : ¬ A b) (hA : ∀ q, s.heap.size ≤ q → A q) (hcl : cells + 1 ≤ room_1.cells) (hsl : slots + 6 ≤ room_1.slots) (hi : i + 5 ≤ L) (hL : L ≤ 2560)
    (KH1 : KH i1 y1 cc1 n1 hh 4) (hn1 : 8 + (n1 + 11) + (rmc 120 1 6).locals ≤ room_1.locals) (CH : CHm l E y1 cc1 n1 hh [.ref qx, .int (xs (i + 1)), .int (xs (i + 2)), .ref qo] (WL E qx qm qo u v σ τ lo) (WL E qx qm qo u v σ2 τ lo2) 0)
    (KY : KV R_law i2 y2 cc2 n2 r2 2) (cy : y2.cls = "SnowForSummerModel") (hR2 : (rmd d2).frames + 1 ≤ room_1.frames ∧ 8 + (n2 + 11) + (rmd d2).locals ≤ room_1.locals) (CY : CI l E y2 cc2 n2 r2 d2 [.ref qm, .int (xs (i + 1)), .int (xs (i + 2))] (WM E qm v τ) (WM E qm v τ2) rb)
    (th : τ2.1 19 = 0) (lv0 : lo2 0 = rb.toInt64) (hR2R : R (N + 1) σ2 τ2)
    (d0 : decode code pc = .ok (.aload_n 1, 1)) (d1 : decode code (pc + 1) = .ok (.aload_n 0, 1)) (d2 : decode code (pc + 2) = .ok (.iload 4, 2)) (d4 : decode code (pc + 4) = .ok (.iconst 1, 1)) (d5 : decode code (pc + 5) = .ok (.iadd, 1)) (d6 : decode code (pc + 6) = .ok (.iaload, 1)) (d7 : decode code (pc + 7) = .ok (.aload_n 0, 1)) (d8 : decode code (pc + 8) = .ok (.iload 4, 2)) (d10 : decode code (pc + 10) = .ok (.iconst 2, 1)) (d11 : decode code (pc + 11) = .ok (.iadd, 1)) (d12 : decode code (pc + 12) = .ok (.iaload, 1)) (d13 : decode code (pc + 13) = .ok (.aload_n 3, 1)) (d14 : decode code (pc + 14) = .ok (.invokestatic i1, 3)) (d17 : decode code (pc + 17) = .ok (.istore 5, 2)) (d19 : decode code (pc + 19) = .ok (.aload_n 2, 1)) (d20 : decode code (pc + 20) = .ok (.aload_n 0, 1)) (d21 : decode code (pc + 21) = .ok (.iload 4, 2)) (d23 : decode code (pc + 23) = .ok (.iconst 1, 1)) (d24 : decode code (pc + 24) = .ok (.iadd, 1)) (d25 : decode code (pc + 25) = .ok (.iaload, 1)) (d26 : decode code (pc + 26) = .ok (.aload_n 0, 1)) (d27 : decode code (pc + 27) = .ok (.iload 4, 2)) (d29 : decode code (pc + 29) = .ok (.iconst 2, 1)) (d30 : decode code (pc + 30) = .ok (.iadd, 1)) (d31 : decode code (pc + 31) = .ok (.iaload, 1)) (d32 : decode code (pc + 32) = .ok (.invokevirtual i2, 3)) (d35 : decode code (pc + 35) = .ok (.istore 6, 2)) (d37 : decode code (pc + 37) = .ok (.aload_n 2, 1)) (d38 : decode code (pc + 38) = .ok (.invokevirtual 68, 3)) (d41 : decode code (pc + 41) = .ok (.iload 5, 2)) (d43 : decode code (pc + 43) = .ok (.if_icmp .eq 5, 3)) (d48 : decode code (pc + 48) = .ok (.iload 5, 2)) (d50 : decode code (pc + 50) = .ok (.ifCond .ne 15, 3)) (d53 : decode code (pc + 53) = .ok (.aload_n 3, 1)) (d54 : decode code (pc + 54) = .ok (.iconst 0, 1)) (d55 : decode code (pc + 55) = .ok (.laload, 1)) (d56 : decode code (pc + 56) = .ok (.iload 6, 2)) (d58 : decode code (pc + 58) = .ok (.i2l, 1)) (d59 : decode code (pc + 59) = .ok (.lcmp, 1)) (d60 : decode code (pc + 60) = .ok (.ifCond .eq 5, 3)) (d65 : decode code (pc + 65) = .ok (.goto off, 3)) (ht : ((pc + 65 : Nat) : Int) + off = ((2033 : Nat) : Int))
    (hl : lv_has ls 7 [(0, .ref b), (1, .ref qx), (2, .ref qm), (3, .ref qo), (4, .int (iI i))]) (hP : va_P E.1 classes (WL E qx qm qo u v σ τ lo) H) (hD : va_D A (WL E qx qm qo u v σ τ lo)) (hS : va_S A s.heap H locs)
    (kk : ∀ (σ2 : CS) (τ2 : MS) (lo2 : Nat → Int64) (cells2 slots2 : Nat) (ls2 : Array Slot), R (N + 1) σ2 τ2 → cells2 ≤ cells + 1 → slots2 ≤ slots + 6 → lv_has ls2 7 [(0, .ref b), (1, .ref qx), (2, .ref qm), (3, .ref qo), (4, .int (iI i))] → ∀ (H1 : Heap) (locs1 : List Loc), va_P E.1 classes (WL E qx qm qo u v σ2 τ2 lo2) H1 → va_D A (WL E qx qm qo u v σ2 τ2 lo2) → va_S A s.heap H1 locs1 → W p l e room_1 s m args below meth c H1 locs1 cells2 slots2 Q (F0 m 2033 ls2 [])) :
    W p l e room_1 s m args below meth c H locs cells slots Q (F0 m pc ls []) := by
  have hx := C.1
  have hb := C.2.1
  have hK := C.2.2.2.2.2.1
  obtain ⟨fm, hrm⟩ := @WL_m E qx qm qo u v σ2 τ lo2
  obtain ⟨fm2, hrm2⟩ := @WL_m E qx qm qo u v σ2 τ2 lo2
  have ei1 : iI i + 1 = iI ((i + 1 : Nat) : Int) := by rw [li_1, iI_add]; rfl
  have hi1 : vp_in (iI ((i + 1 : Nat) : Int)) L := vin_in (vin_i (by omega) (by omega) (by omega))
  have ci1 : (iI ((i + 1 : Nat) : Int)).toNatClampNeg = i + 1 := by rw [iI_clamp (by omega) (by omega)]; omega
  have ei2 : iI i + 2 = iI ((i + 2 : Nat) : Int) := by rw [li_2, iI_add]; rfl
  have hi2 : vp_in (iI ((i + 2 : Nat) : Int)) L := vin_in (vin_i (by omega) (by omega) (by omega))
  have ci2 : (iI ((i + 2 : Nat) : Int)).toNatClampNeg = i + 2 := by rw [iI_clamp (by omega) (by omega)]; omega
  refine lv_aload_n hx hb d0 rfl (lv_at hl 1 rfl) ?_
  refine lv_aload_n hx hb d1 rfl (lv_at hl 0 rfl) ?_
  refine lv_iload hx hb d2 (lv_at hl 4 rfl) ?_
  refine lv_iconst (v := 1) hx hb d4 (by decide) ?_
  refine lv_iadd hx hb d5 ?_
  rw [ei1]
  refine va_sld hx hb hX hbl hbA hS hi1 d6 ?_
  rw [ci1]
  refine lv_aload_n hx hb d7 rfl (lv_at hl 0 rfl) ?_
  refine lv_iload hx hb d8 (lv_at hl 4 rfl) ?_
  refine lv_iconst (v := 2) hx hb d10 (by decide) ?_
  refine lv_iadd hx hb d11 ?_
  rw [ei2]
  refine va_sld hx hb hX hbl hbA hS hi2 d12 ?_
  rw [ci2]
  refine lv_aload_n hx hb d13 rfl (lv_at hl 3 rfl) ?_
  refine k_LH (As := [.ref qx, .int (xs (i + 1)), .int (xs (i + 2)), .ref qo]) (rest := []) C KH1 ⟨Nat.le_of_ble_eq_true rfl, hn1⟩ hcl hsl CH (by rw [WL_len, WL_len]) hP hD hS hA hl.1 (Nat.le_of_ble_eq_true rfl) rfl d14 (fun H locs hP hD hS => ?_)
  refine lv_istore (lv' := [(5, .int 0), (0, .ref b), (1, .ref qx), (2, .ref qm), (3, .ref qo), (4, .int (iI i))]) hx hb d17 hl (by decide) rfl (fun ls hl => ?_)
  refine lv_aload_n hx hb d19 rfl (lv_at hl 3 rfl) ?_
  refine lv_aload_n hx hb d20 rfl (lv_at hl 1 rfl) ?_
  refine lv_iload hx hb d21 (lv_at hl 5 rfl) ?_
  refine lv_iconst (v := 1) hx hb d23 (by decide) ?_
  refine lv_iadd hx hb d24 ?_
  rw [ei1]
  refine va_sld hx hb hX hbl hbA hS hi1 d25 ?_
  rw [ci1]
  refine lv_aload_n hx hb d26 rfl (lv_at hl 1 rfl) ?_
  refine lv_iload hx hb d27 (lv_at hl 5 rfl) ?_
  refine lv_iconst (v := 2) hx hb d29 (by decide) ?_
  refine lv_iadd hx hb d30 ?_
  rw [ei2]
  refine va_sld hx hb hX hbl hbA hS hi2 d31 ?_
  rw [ci2]
  refine k_L (As := [.int (xs (i + 1)), .int (xs (i + 2))]) C KY hR2 hcl hsl (CY.m qx qo u σ2 lo2) (by rw [WL_len, WL_len]) (ci := 12) rfl (by rw [cy]; rfl) hrm hP hD hS hA hl.1 (Nat.le_of_ble_eq_true rfl) rfl d32 (fun H locs hP hD hS => ?_)
  refine lv_istore (lv' := [(6, .int rb), (5, .int 0), (0, .ref b), (1, .ref qx), (2, .ref qm), (3, .ref qo), (4, .int (iI i))]) hx hb d35 hl (by decide) rfl (fun ls hl => ?_)
  refine lv_aload_n hx hb d37 rfl (lv_at hl 4 rfl) ?_
  refine k_L (As := []) C K_law_68 ⟨Nat.le_of_ble_eq_true rfl, Nat.le_of_ble_eq_true rfl⟩ hcl hsl ((Y_thrown l E qm v τ2).m qx qo u σ2 lo2) rfl (ci := 12) rfl rfl hrm2 hP hD hS hA hl.1 (Nat.le_of_ble_eq_true rfl) rfl d38 (fun H locs hP hD hS => ?_)
  refine lv_iload hx hb d41 (lv_at hl 1 rfl) ?_
  refine lv_icmp_eq (tgt := pc + 48) hx hb d43 (by omega) (fun _ => ?_) (fun z => absurd th z)
  refine lv_iload hx hb d48 (lv_at hl 1 rfl) ?_
  refine lv_if_ne (tgt := pc + 65) hx hb d50 (by omega) (fun z => absurd rfl z) (fun _ => ?_)
  refine lv_aload_n hx hb d53 rfl (lv_at hl 5 rfl) ?_
  refine lv_iconst (v := 0) hx hb d54 (by decide) ?_
  refine va_lald hx hb hK hP 163 5 WL_o rfl (vin_in (by decide)) d55 ?_
  refine lv_iload hx hb d56 (lv_at hl 0 rfl) ?_
  refine lv_i2l (v := rb.toInt64) hx hb d58 rfl ?_
  refine W.lcmp hx hb d59 ?_
  rw [show lo2 (0 : Int32).toNatClampNeg = rb.toInt64 from lv0]
  refine lv_if_eq (tgt := pc + 65) hx hb d60 (by omega) (fun _ => ?_) (fun z => absurd (lc_0 _) z)
  refine lv_goto (tgt := 2033) hx hb d65 ht ?_
  exact kk σ2 τ2 lo2 _ _ ls hR2R (Nat.le_refl _) (Nat.le_refl _) (lv_sub hl [2, 3, 4, 5, 6] rfl) H locs hP hD hS
set_option maxHeartbeats 4000000 in
theorem law_t2_1 {p : Program} {l : Launch} {e : Env} {s : State} {m : MethodId} {args : Array Value} {below : List Frame} {meth : Method} {c : Code} {H : Heap} {locs : List Loc} {cells slots : Nat} {Q : State → Prop} {E : ENV} {A : Nat → Prop} {b L qx qm qo : Nat} {u v : List Nat} {xs : Nat → Int32} {σ σ2 : CS} {τ τ2 : MS} {lo lo2 : Nat → Int64} {ls : Array Slot} {i pc i1 i2 d2 n1 n2 : Nat} {N off : Int} {y1 y2 : MethodName} {cc1 cc2 : ByteArray} {r2 : Option FieldType} {rb : Int32} {hh : List (Nat × Nat × Nat × Nat)}
    (C : CxL E A p s m args c) (hX : va_X b L xs s s.heap) (hbl : b < s.heap.size) (hbA : ¬ A b) (hA : ∀ q, s.heap.size ≤ q → A q) (hcl : cells + 1 ≤ room_1.cells) (hsl : slots + 6 ≤ room_1.slots) (hi : i + 5 ≤ L) (hL : L ≤ 2560)
    (KH1 : KH i1 y1 cc1 n1 hh 4) (hn1 : 8 + (n1 + 11) + (rmc 120 1 6).locals ≤ room_1.locals) (CH : CHm l E y1 cc1 n1 hh [.ref qx, .int (xs (i + 1)), .int (xs (i + 2)), .ref qo] (WL E qx qm qo u v σ τ lo) (WL E qx qm qo u v σ2 τ lo2) 1)
    (KY : KV R_law i2 y2 cc2 n2 r2 2) (cy : y2.cls = "SnowForSummerModel") (hR2 : (rmd d2).frames + 1 ≤ room_1.frames ∧ 8 + (n2 + 11) + (rmd d2).locals ≤ room_1.locals) (CY : CI l E y2 cc2 n2 r2 d2 [.ref qm, .int (xs (i + 1)), .int (xs (i + 2))] (WM E qm v τ) (WM E qm v τ2) rb)
    (th : τ2.1 19 = 1) (hR2R : R (N + 1) σ2 τ2)
    (d0 : decode code pc = .ok (.aload_n 1, 1)) (d1 : decode code (pc + 1) = .ok (.aload_n 0, 1)) (d2 : decode code (pc + 2) = .ok (.iload 4, 2)) (d4 : decode code (pc + 4) = .ok (.iconst 1, 1)) (d5 : decode code (pc + 5) = .ok (.iadd, 1)) (d6 : decode code (pc + 6) = .ok (.iaload, 1)) (d7 : decode code (pc + 7) = .ok (.aload_n 0, 1)) (d8 : decode code (pc + 8) = .ok (.iload 4, 2)) (d10 : decode code (pc + 10) = .ok (.iconst 2, 1)) (d11 : decode code (pc + 11) = .ok (.iadd, 1)) (d12 : decode code (pc + 12) = .ok (.iaload, 1)) (d13 : decode code (pc + 13) = .ok (.aload_n 3, 1)) (d14 : decode code (pc + 14) = .ok (.invokestatic i1, 3)) (d17 : decode code (pc + 17) = .ok (.istore 5, 2)) (d19 : decode code (pc + 19) = .ok (.aload_n 2, 1)) (d20 : decode code (pc + 20) = .ok (.aload_n 0, 1)) (d21 : decode code (pc + 21) = .ok (.iload 4, 2)) (d23 : decode code (pc + 23) = .ok (.iconst 1, 1)) (d24 : decode code (pc + 24) = .ok (.iadd, 1)) (d25 : decode code (pc + 25) = .ok (.iaload, 1)) (d26 : decode code (pc + 26) = .ok (.aload_n 0, 1)) (d27 : decode code (pc + 27) = .ok (.iload 4, 2)) (d29 : decode code (pc + 29) = .ok (.iconst 2, 1)) (d30 : decode code (pc + 30) = .ok (.iadd, 1)) (d31 : decode code (pc + 31) = .ok (.iaload, 1)) (d32 : decode code (pc + 32) = .ok (.invokevirtual i2, 3)) (d35 : decode code (pc + 35) = .ok (.istore 6, 2)) (d37 : decode code (pc + 37) = .ok (.aload_n 2, 1)) (d38 : decode code (pc + 38) = .ok (.invokevirtual 68, 3)) (d41 : decode code (pc + 41) = .ok (.iload 5, 2)) (d43 : decode code (pc + 43) = .ok (.if_icmp .eq 5, 3)) (d48 : decode code (pc + 48) = .ok (.iload 5, 2)) (d50 : decode code (pc + 50) = .ok (.ifCond .ne 15, 3)) (d65 : decode code (pc + 65) = .ok (.goto off, 3)) (ht : ((pc + 65 : Nat) : Int) + off = ((2033 : Nat) : Int))
    (hl : lv_has ls 7 [(0, .ref b), (1, .ref qx), (2, .ref qm), (3, .ref qo), (4, .int (iI i))]) (hP : va_P E.1 classes (WL E qx qm qo u v σ τ lo) H) (hD : va_D A (WL E qx qm qo u v σ τ lo)) (hS : va_S A s.heap H locs)
    (kk : ∀ (σ2 : CS) (τ2 : MS) (lo2 : Nat → Int64) (cells2 slots2 : Nat) (ls2 : Array Slot), R (N + 1) σ2 τ2 → cells2 ≤ cells + 1 → slots2 ≤ slots + 6 → lv_has ls2 7 [(0, .ref b), (1, .ref qx), (2, .ref qm), (3, .ref qo), (4, .int (iI i))] → ∀ (H1 : Heap) (locs1 : List Loc), va_P E.1 classes (WL E qx qm qo u v σ2 τ2 lo2) H1 → va_D A (WL E qx qm qo u v σ2 τ2 lo2) → va_S A s.heap H1 locs1 → W p l e room_1 s m args below meth c H1 locs1 cells2 slots2 Q (F0 m 2033 ls2 [])) :
    W p l e room_1 s m args below meth c H locs cells slots Q (F0 m pc ls []) := by
  have hx := C.1
  have hb := C.2.1
  have hK := C.2.2.2.2.2.1
  obtain ⟨fm, hrm⟩ := @WL_m E qx qm qo u v σ2 τ lo2
  obtain ⟨fm2, hrm2⟩ := @WL_m E qx qm qo u v σ2 τ2 lo2
  have ei1 : iI i + 1 = iI ((i + 1 : Nat) : Int) := by rw [li_1, iI_add]; rfl
  have hi1 : vp_in (iI ((i + 1 : Nat) : Int)) L := vin_in (vin_i (by omega) (by omega) (by omega))
  have ci1 : (iI ((i + 1 : Nat) : Int)).toNatClampNeg = i + 1 := by rw [iI_clamp (by omega) (by omega)]; omega
  have ei2 : iI i + 2 = iI ((i + 2 : Nat) : Int) := by rw [li_2, iI_add]; rfl
  have hi2 : vp_in (iI ((i + 2 : Nat) : Int)) L := vin_in (vin_i (by omega) (by omega) (by omega))
  have ci2 : (iI ((i + 2 : Nat) : Int)).toNatClampNeg = i + 2 := by rw [iI_clamp (by omega) (by omega)]; omega
  refine lv_aload_n hx hb d0 rfl (lv_at hl 1 rfl) ?_
  refine lv_aload_n hx hb d1 rfl (lv_at hl 0 rfl) ?_
  refine lv_iload hx hb d2 (lv_at hl 4 rfl) ?_
  refine lv_iconst (v := 1) hx hb d4 (by decide) ?_
  refine lv_iadd hx hb d5 ?_
  rw [ei1]
  refine va_sld hx hb hX hbl hbA hS hi1 d6 ?_
  rw [ci1]
  refine lv_aload_n hx hb d7 rfl (lv_at hl 0 rfl) ?_
  refine lv_iload hx hb d8 (lv_at hl 4 rfl) ?_
  refine lv_iconst (v := 2) hx hb d10 (by decide) ?_
  refine lv_iadd hx hb d11 ?_
  rw [ei2]
  refine va_sld hx hb hX hbl hbA hS hi2 d12 ?_
  rw [ci2]
  refine lv_aload_n hx hb d13 rfl (lv_at hl 3 rfl) ?_
  refine k_LH (As := [.ref qx, .int (xs (i + 1)), .int (xs (i + 2)), .ref qo]) (rest := []) C KH1 ⟨Nat.le_of_ble_eq_true rfl, hn1⟩ hcl hsl CH (by rw [WL_len, WL_len]) hP hD hS hA hl.1 (Nat.le_of_ble_eq_true rfl) rfl d14 (fun H locs hP hD hS => ?_)
  refine lv_istore (lv' := [(5, .int 1), (0, .ref b), (1, .ref qx), (2, .ref qm), (3, .ref qo), (4, .int (iI i))]) hx hb d17 hl (by decide) rfl (fun ls hl => ?_)
  refine lv_aload_n hx hb d19 rfl (lv_at hl 3 rfl) ?_
  refine lv_aload_n hx hb d20 rfl (lv_at hl 1 rfl) ?_
  refine lv_iload hx hb d21 (lv_at hl 5 rfl) ?_
  refine lv_iconst (v := 1) hx hb d23 (by decide) ?_
  refine lv_iadd hx hb d24 ?_
  rw [ei1]
  refine va_sld hx hb hX hbl hbA hS hi1 d25 ?_
  rw [ci1]
  refine lv_aload_n hx hb d26 rfl (lv_at hl 1 rfl) ?_
  refine lv_iload hx hb d27 (lv_at hl 5 rfl) ?_
  refine lv_iconst (v := 2) hx hb d29 (by decide) ?_
  refine lv_iadd hx hb d30 ?_
  rw [ei2]
  refine va_sld hx hb hX hbl hbA hS hi2 d31 ?_
  rw [ci2]
  refine k_L (As := [.int (xs (i + 1)), .int (xs (i + 2))]) C KY hR2 hcl hsl (CY.m qx qo u σ2 lo2) (by rw [WL_len, WL_len]) (ci := 12) rfl (by rw [cy]; rfl) hrm hP hD hS hA hl.1 (Nat.le_of_ble_eq_true rfl) rfl d32 (fun H locs hP hD hS => ?_)
  refine lv_istore (lv' := [(6, .int rb), (5, .int 1), (0, .ref b), (1, .ref qx), (2, .ref qm), (3, .ref qo), (4, .int (iI i))]) hx hb d35 hl (by decide) rfl (fun ls hl => ?_)
  refine lv_aload_n hx hb d37 rfl (lv_at hl 4 rfl) ?_
  refine k_L (As := []) C K_law_68 ⟨Nat.le_of_ble_eq_true rfl, Nat.le_of_ble_eq_true rfl⟩ hcl hsl ((Y_thrown l E qm v τ2).m qx qo u σ2 lo2) rfl (ci := 12) rfl rfl hrm2 hP hD hS hA hl.1 (Nat.le_of_ble_eq_true rfl) rfl d38 (fun H locs hP hD hS => ?_)
  refine lv_iload hx hb d41 (lv_at hl 1 rfl) ?_
  refine lv_icmp_eq (tgt := pc + 48) hx hb d43 (by omega) (fun _ => ?_) (fun z => absurd th z)
  refine lv_iload hx hb d48 (lv_at hl 1 rfl) ?_
  refine lv_if_ne (tgt := pc + 65) hx hb d50 (by omega) (fun _ => ?_) (fun z => absurd z (by decide))
  refine lv_goto (tgt := 2033) hx hb d65 ht ?_
  exact kk σ2 τ2 lo2 _ _ ls hR2R (Nat.le_refl _) (Nat.le_refl _) (lv_sub hl [2, 3, 4, 5, 6] rfl) H locs hP hD hS
theorem K_law_67 : KV R_law 67 yX12_of cX12_of 3 (some .int) 2 := ⟨Tg_mem 1580 (by decide +kernel) (by decide +kernel), Tg_mem 102 (by decide +kernel) (by decide +kernel), Tg_mem 1577 (by decide +kernel) (by decide +kernel), Tg_mem 1578 (by decide +kernel) (by decide +kernel), Tg_mem 1579 (by decide +kernel) (by decide +kernel), by decide +kernel⟩
theorem KH_of : KH 62 yL_of cL_of 5 [(0, 10, 13, 13)] 4 := ⟨Tg_mem 1225 (by decide +kernel) (by decide +kernel), Tg_mem 89 (by decide +kernel) (by decide +kernel), Tg_mem 1223 (by decide +kernel) (by decide +kernel), Tg_mem 1224 (by decide +kernel) (by decide +kernel), by decide +kernel⟩
set_option maxHeartbeats 4000000 in
theorem tc_of (l : Launch) (hlt : l.stackTraces = false) (HC : CatchP l) : ThC l 435 := by
  intro p e s m args below meth c H locs cells slots Q E A b L qx qm qo u v xs σ τ lo ls i N C hX hbl hbA hA hcl hsl hi hL hR hN hl hP hD hS kk
  rcases s_of hR hN (xs (i + 1)) (xs (i + 2)) with ⟨o, ho, q, hq, e0, th, hR2⟩ | ⟨ht, q, hq, th, hR2⟩
  · have CY := Y_of l E qm v τ (xs (i + 1)) (xs (i + 2)) hq
    exact law_t2_0 (pc := 435) (off := 1533) C hX hbl hbA hA hcl hsl hi hL KH_of (Nat.le_of_ble_eq_true rfl) (hR_of l E qx qm qo u v σ τ lo (xs (i + 1)) (xs (i + 2)) ho) K_law_67 rfl ⟨Nat.le_of_ble_eq_true rfl, Nat.le_of_ble_eq_true rfl⟩ CY th (by rw [← e0]; rfl) hR2 (by decide +kernel) (by decide +kernel) (by decide +kernel) (by decide +kernel) (by decide +kernel) (by decide +kernel) (by decide +kernel) (by decide +kernel) (by decide +kernel) (by decide +kernel) (by decide +kernel) (by decide +kernel) (by decide +kernel) (by decide +kernel) (by decide +kernel) (by decide +kernel) (by decide +kernel) (by decide +kernel) (by decide +kernel) (by decide +kernel) (by decide +kernel) (by decide +kernel) (by decide +kernel) (by decide +kernel) (by decide +kernel) (by decide +kernel) (by decide +kernel) (by decide +kernel) (by decide +kernel) (by decide +kernel) (by decide +kernel) (by decide +kernel) (by decide +kernel) (by decide +kernel) (by decide +kernel) (by decide +kernel) (by decide +kernel) (by decide +kernel) (by decide +kernel) (by decide +kernel) (by decide +kernel) (by decide) hl hP hD hS kk
  · have CY := Y_of l E qm v τ (xs (i + 1)) (xs (i + 2)) hq
    exact law_t2_1 (pc := 435) (off := 1533) C hX hbl hbA hA hcl hsl hi hL KH_of (Nat.le_of_ble_eq_true rfl) (hT_of l hlt HC E qx qm qo u v σ τ lo (xs (i + 1)) (xs (i + 2)) ht) K_law_67 rfl ⟨Nat.le_of_ble_eq_true rfl, Nat.le_of_ble_eq_true rfl⟩ CY th hR2 (by decide +kernel) (by decide +kernel) (by decide +kernel) (by decide +kernel) (by decide +kernel) (by decide +kernel) (by decide +kernel) (by decide +kernel) (by decide +kernel) (by decide +kernel) (by decide +kernel) (by decide +kernel) (by decide +kernel) (by decide +kernel) (by decide +kernel) (by decide +kernel) (by decide +kernel) (by decide +kernel) (by decide +kernel) (by decide +kernel) (by decide +kernel) (by decide +kernel) (by decide +kernel) (by decide +kernel) (by decide +kernel) (by decide +kernel) (by decide +kernel) (by decide +kernel) (by decide +kernel) (by decide +kernel) (by decide +kernel) (by decide +kernel) (by decide +kernel) (by decide +kernel) (by decide) hl hP hD hS kk
theorem K_law_140 : KV R_law 140 yX12_net cX12_net 2 (some .int) 1 := ⟨Tg_mem 1744 (by decide +kernel) (by decide +kernel), Tg_mem 102 (by decide +kernel) (by decide +kernel), Tg_mem 1741 (by decide +kernel) (by decide +kernel), Tg_mem 1742 (by decide +kernel) (by decide +kernel), Tg_mem 1743 (by decide +kernel) (by decide +kernel), by decide +kernel⟩
theorem KH_net : KH 137 yL_net cL_net 4 [(0, 9, 12, 13)] 3 := ⟨Tg_mem 1294 (by decide +kernel) (by decide +kernel), Tg_mem 89 (by decide +kernel) (by decide +kernel), Tg_mem 1292 (by decide +kernel) (by decide +kernel), Tg_mem 1293 (by decide +kernel) (by decide +kernel), by decide +kernel⟩
set_option maxHeartbeats 4000000 in
theorem tc_net (l : Launch) (hlt : l.stackTraces = false) (HC : CatchP l) : ThC l 975 := by
  intro p e s m args below meth c H locs cells slots Q E A b L qx qm qo u v xs σ τ lo ls i N C hX hbl hbA hA hcl hsl hi hL hR hN hl hP hD hS kk
  rcases s_net hR hN (xs (i + 1)) with ⟨o, ho, q, hq, e0, th, hR2⟩ | ⟨ht, q, hq, th, hR2⟩
  · have CY := Y_net l E qm v τ (xs (i + 1)) hq
    exact law_t1_0 (pc := 975) (off := 1005) C hX hbl hbA hA hcl hsl hi hL KH_net (Nat.le_of_ble_eq_true rfl) (hR_net l E qx qm qo u v σ τ lo (xs (i + 1)) ho) K_law_140 rfl ⟨Nat.le_of_ble_eq_true rfl, Nat.le_of_ble_eq_true rfl⟩ CY th (by rw [← e0]; rfl) hR2 (by decide +kernel) (by decide +kernel) (by decide +kernel) (by decide +kernel) (by decide +kernel) (by decide +kernel) (by decide +kernel) (by decide +kernel) (by decide +kernel) (by decide +kernel) (by decide +kernel) (by decide +kernel) (by decide +kernel) (by decide +kernel) (by decide +kernel) (by decide +kernel) (by decide +kernel) (by decide +kernel) (by decide +kernel) (by decide +kernel) (by decide +kernel) (by decide +kernel) (by decide +kernel) (by decide +kernel) (by decide +kernel) (by decide +kernel) (by decide +kernel) (by decide +kernel) (by decide +kernel) (by decide +kernel) (by decide +kernel) (by decide) hl hP hD hS kk
  · have CY := Y_net l E qm v τ (xs (i + 1)) hq
    exact law_t1_1 (pc := 975) (off := 1005) C hX hbl hbA hA hcl hsl hi hL KH_net (Nat.le_of_ble_eq_true rfl) (hT_net l hlt HC E qx qm qo u v σ τ lo (xs (i + 1)) ht) K_law_140 rfl ⟨Nat.le_of_ble_eq_true rfl, Nat.le_of_ble_eq_true rfl⟩ CY th hR2 (by decide +kernel) (by decide +kernel) (by decide +kernel) (by decide +kernel) (by decide +kernel) (by decide +kernel) (by decide +kernel) (by decide +kernel) (by decide +kernel) (by decide +kernel) (by decide +kernel) (by decide +kernel) (by decide +kernel) (by decide +kernel) (by decide +kernel) (by decide +kernel) (by decide +kernel) (by decide +kernel) (by decide +kernel) (by decide +kernel) (by decide +kernel) (by decide +kernel) (by decide +kernel) (by decide +kernel) (by decide) hl hP hD hS kk
theorem K_law_207 : KV R_law 207 yX12_bare cX12_bare 5 (some .int) 2 := ⟨Tg_mem 1843 (by decide +kernel) (by decide +kernel), Tg_mem 102 (by decide +kernel) (by decide +kernel), Tg_mem 1840 (by decide +kernel) (by decide +kernel), Tg_mem 1841 (by decide +kernel) (by decide +kernel), Tg_mem 1842 (by decide +kernel) (by decide +kernel), by decide +kernel⟩
theorem KH_bare : KH 205 yL_bare cL_bare 5 [(0, 10, 13, 13)] 4 := ⟨Tg_mem 1301 (by decide +kernel) (by decide +kernel), Tg_mem 89 (by decide +kernel) (by decide +kernel), Tg_mem 1299 (by decide +kernel) (by decide +kernel), Tg_mem 1300 (by decide +kernel) (by decide +kernel), by decide +kernel⟩
set_option maxHeartbeats 4000000 in
theorem tc_bare (l : Launch) (hlt : l.stackTraces = false) (HC : CatchP l) : ThC l 1419 := by
  intro p e s m args below meth c H locs cells slots Q E A b L qx qm qo u v xs σ τ lo ls i N C hX hbl hbA hA hcl hsl hi hL hR hN hl hP hD hS kk
  rcases s_bare hR hN (xs (i + 1)) (xs (i + 2)) with ⟨o, ho, q, hq, e0, th, hR2⟩ | ⟨ht, q, hq, th, hR2⟩
  · have CY := Y_bare l E qm v τ (xs (i + 1)) (xs (i + 2)) hq
    exact law_t2_0 (pc := 1419) (off := 549) C hX hbl hbA hA hcl hsl hi hL KH_bare (Nat.le_of_ble_eq_true rfl) (hR_bare l E qx qm qo u v σ τ lo (xs (i + 1)) (xs (i + 2)) ho) K_law_207 rfl ⟨Nat.le_of_ble_eq_true rfl, Nat.le_of_ble_eq_true rfl⟩ CY th (by rw [← e0]; rfl) hR2 (by decide +kernel) (by decide +kernel) (by decide +kernel) (by decide +kernel) (by decide +kernel) (by decide +kernel) (by decide +kernel) (by decide +kernel) (by decide +kernel) (by decide +kernel) (by decide +kernel) (by decide +kernel) (by decide +kernel) (by decide +kernel) (by decide +kernel) (by decide +kernel) (by decide +kernel) (by decide +kernel) (by decide +kernel) (by decide +kernel) (by decide +kernel) (by decide +kernel) (by decide +kernel) (by decide +kernel) (by decide +kernel) (by decide +kernel) (by decide +kernel) (by decide +kernel) (by decide +kernel) (by decide +kernel) (by decide +kernel) (by decide +kernel) (by decide +kernel) (by decide +kernel) (by decide +kernel) (by decide +kernel) (by decide +kernel) (by decide +kernel) (by decide +kernel) (by decide +kernel) (by decide +kernel) (by decide) hl hP hD hS kk
  · have CY := Y_bare l E qm v τ (xs (i + 1)) (xs (i + 2)) hq
    exact law_t2_1 (pc := 1419) (off := 549) C hX hbl hbA hA hcl hsl hi hL KH_bare (Nat.le_of_ble_eq_true rfl) (hT_bare l hlt HC E qx qm qo u v σ τ lo (xs (i + 1)) (xs (i + 2)) ht) K_law_207 rfl ⟨Nat.le_of_ble_eq_true rfl, Nat.le_of_ble_eq_true rfl⟩ CY th hR2 (by decide +kernel) (by decide +kernel) (by decide +kernel) (by decide +kernel) (by decide +kernel) (by decide +kernel) (by decide +kernel) (by decide +kernel) (by decide +kernel) (by decide +kernel) (by decide +kernel) (by decide +kernel) (by decide +kernel) (by decide +kernel) (by decide +kernel) (by decide +kernel) (by decide +kernel) (by decide +kernel) (by decide +kernel) (by decide +kernel) (by decide +kernel) (by decide +kernel) (by decide +kernel) (by decide +kernel) (by decide +kernel) (by decide +kernel) (by decide +kernel) (by decide +kernel) (by decide +kernel) (by decide +kernel) (by decide +kernel) (by decide +kernel) (by decide +kernel) (by decide +kernel) (by decide) hl hP hD hS kk
theorem K_law_238 : KV R_law 238 yX12_premium cX12_premium 4 (some .int) 1 := ⟨Tg_mem 1895 (by decide +kernel) (by decide +kernel), Tg_mem 102 (by decide +kernel) (by decide +kernel), Tg_mem 1892 (by decide +kernel) (by decide +kernel), Tg_mem 1893 (by decide +kernel) (by decide +kernel), Tg_mem 1894 (by decide +kernel) (by decide +kernel), by decide +kernel⟩
theorem KH_premium : KH 236 yL_premium cL_premium 4 [(0, 9, 12, 13)] 3 := ⟨Tg_mem 1308 (by decide +kernel) (by decide +kernel), Tg_mem 89 (by decide +kernel) (by decide +kernel), Tg_mem 1306 (by decide +kernel) (by decide +kernel), Tg_mem 1307 (by decide +kernel) (by decide +kernel), by decide +kernel⟩
set_option maxHeartbeats 4000000 in
theorem tc_premium (l : Launch) (hlt : l.stackTraces = false) (HC : CatchP l) : ThC l 1746 := by
  intro p e s m args below meth c H locs cells slots Q E A b L qx qm qo u v xs σ τ lo ls i N C hX hbl hbA hA hcl hsl hi hL hR hN hl hP hD hS kk
  rcases s_premium hR hN (xs (i + 1)) with ⟨o, ho, q, hq, e0, th, hR2⟩ | ⟨ht, q, hq, th, hR2⟩
  · have CY := Y_premium l E qm v τ (xs (i + 1)) hq
    exact law_t1_0 (pc := 1746) (off := 234) C hX hbl hbA hA hcl hsl hi hL KH_premium (Nat.le_of_ble_eq_true rfl) (hR_premium l E qx qm qo u v σ τ lo (xs (i + 1)) ho) K_law_238 rfl ⟨Nat.le_of_ble_eq_true rfl, Nat.le_of_ble_eq_true rfl⟩ CY th (by rw [← e0]; rfl) hR2 (by decide +kernel) (by decide +kernel) (by decide +kernel) (by decide +kernel) (by decide +kernel) (by decide +kernel) (by decide +kernel) (by decide +kernel) (by decide +kernel) (by decide +kernel) (by decide +kernel) (by decide +kernel) (by decide +kernel) (by decide +kernel) (by decide +kernel) (by decide +kernel) (by decide +kernel) (by decide +kernel) (by decide +kernel) (by decide +kernel) (by decide +kernel) (by decide +kernel) (by decide +kernel) (by decide +kernel) (by decide +kernel) (by decide +kernel) (by decide +kernel) (by decide +kernel) (by decide +kernel) (by decide +kernel) (by decide +kernel) (by decide) hl hP hD hS kk
  · have CY := Y_premium l E qm v τ (xs (i + 1)) hq
    exact law_t1_1 (pc := 1746) (off := 234) C hX hbl hbA hA hcl hsl hi hL KH_premium (Nat.le_of_ble_eq_true rfl) (hT_premium l hlt HC E qx qm qo u v σ τ lo (xs (i + 1)) ht) K_law_238 rfl ⟨Nat.le_of_ble_eq_true rfl, Nat.le_of_ble_eq_true rfl⟩ CY th hR2 (by decide +kernel) (by decide +kernel) (by decide +kernel) (by decide +kernel) (by decide +kernel) (by decide +kernel) (by decide +kernel) (by decide +kernel) (by decide +kernel) (by decide +kernel) (by decide +kernel) (by decide +kernel) (by decide +kernel) (by decide +kernel) (by decide +kernel) (by decide +kernel) (by decide +kernel) (by decide +kernel) (by decide +kernel) (by decide +kernel) (by decide +kernel) (by decide +kernel) (by decide +kernel) (by decide +kernel) (by decide) hl hP hD hS kk
theorem K_law_269 : KV R_law 269 yX12_row cX12_row 2 (some .int) 1 := ⟨Tg_mem 1935 (by decide +kernel) (by decide +kernel), Tg_mem 102 (by decide +kernel) (by decide +kernel), Tg_mem 1932 (by decide +kernel) (by decide +kernel), Tg_mem 1933 (by decide +kernel) (by decide +kernel), Tg_mem 1934 (by decide +kernel) (by decide +kernel), by decide +kernel⟩
theorem KH_row : KH 267 yL_row cL_row 4 [(0, 9, 12, 13)] 3 := ⟨Tg_mem 1315 (by decide +kernel) (by decide +kernel), Tg_mem 89 (by decide +kernel) (by decide +kernel), Tg_mem 1313 (by decide +kernel) (by decide +kernel), Tg_mem 1314 (by decide +kernel) (by decide +kernel), by decide +kernel⟩
set_option maxHeartbeats 4000000 in
theorem tc_row (l : Launch) (hlt : l.stackTraces = false) (HC : CatchP l) : ThC l 1977 := by
  intro p e s m args below meth c H locs cells slots Q E A b L qx qm qo u v xs σ τ lo ls i N C hX hbl hbA hA hcl hsl hi hL hR hN hl hP hD hS kk
  rcases s_row hR hN (xs (i + 1)) with ⟨o, ho, q, hq, e0, th, hR2⟩ | ⟨ht, q, hq, th, hR2⟩
  · have CY := Y_row l E qm v τ (xs (i + 1)) hq
    exact law_t1_0 (pc := 1977) (off := 3) C hX hbl hbA hA hcl hsl hi hL KH_row (Nat.le_of_ble_eq_true rfl) (hR_row l E qx qm qo u v σ τ lo (xs (i + 1)) ho) K_law_269 rfl ⟨Nat.le_of_ble_eq_true rfl, Nat.le_of_ble_eq_true rfl⟩ CY th (by rw [← e0]; rfl) hR2 (by decide +kernel) (by decide +kernel) (by decide +kernel) (by decide +kernel) (by decide +kernel) (by decide +kernel) (by decide +kernel) (by decide +kernel) (by decide +kernel) (by decide +kernel) (by decide +kernel) (by decide +kernel) (by decide +kernel) (by decide +kernel) (by decide +kernel) (by decide +kernel) (by decide +kernel) (by decide +kernel) (by decide +kernel) (by decide +kernel) (by decide +kernel) (by decide +kernel) (by decide +kernel) (by decide +kernel) (by decide +kernel) (by decide +kernel) (by decide +kernel) (by decide +kernel) (by decide +kernel) (by decide +kernel) (by decide +kernel) (by decide) hl hP hD hS kk
  · have CY := Y_row l E qm v τ (xs (i + 1)) hq
    exact law_t1_1 (pc := 1977) (off := 3) C hX hbl hbA hA hcl hsl hi hL KH_row (Nat.le_of_ble_eq_true rfl) (hT_row l hlt HC E qx qm qo u v σ τ lo (xs (i + 1)) ht) K_law_269 rfl ⟨Nat.le_of_ble_eq_true rfl, Nat.le_of_ble_eq_true rfl⟩ CY th hR2 (by decide +kernel) (by decide +kernel) (by decide +kernel) (by decide +kernel) (by decide +kernel) (by decide +kernel) (by decide +kernel) (by decide +kernel) (by decide +kernel) (by decide +kernel) (by decide +kernel) (by decide +kernel) (by decide +kernel) (by decide +kernel) (by decide +kernel) (by decide +kernel) (by decide +kernel) (by decide +kernel) (by decide +kernel) (by decide +kernel) (by decide +kernel) (by decide +kernel) (by decide +kernel) (by decide +kernel) (by decide) hl hP hD hS kk
