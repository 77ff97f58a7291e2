section LWN
variable {p : Program} {l : Launch} {e : Env} {R : Room} {s : State} {m : MethodId} {args : Array Value} {below : List Frame} {meth : Method} {c : Code} {H : Heap} {locs : List Loc} {cells slots : Nat} {Q : State → Prop}
variable {E : ENV} {pc : Nat} {ls : Array Slot} {rest : List Value} {A : Nat → Prop} {ws : va_W} {idx : Nat}
variable {y1 : MethodName} {cc1 : ByteArray} {n1 : Nat} {d1 b mc1 ms1 : Nat} {As : List Value} {wr : va_W} {wcf : List Nat → va_W} {ob : va_E} {host : String}
theorem n_L (C : CxL E A p s m args c) (K : KI R_law idx y1 cc1 n1 As.length) (hfr : d1 + 1 ≤ R.frames) (hlo : 8 + (n1 + 11) + 60 * d1 ≤ R.locals) (hc : CN l E y1 cc1 n1 d1 mc1 ms1 (.ref b :: As) [(b, ob)] wcf) (i : Nat) (isR : List Nat)
    (hC : ([i] : List Nat).map (fun i => ws[i]?) = [(b, ob)].map some) (hR : isR.map (fun i => ws[i]?) = wr.map some) (hn : va_nd isR = true) (hdis : ∀ j ∈ isR, j ∉ [i])
    (hP : va_P E.1 classes ws H) (hD : va_D A ws) (hS : va_S A s.heap H locs) (hA : ∀ q, s.heap.size ≤ q → A q) (hls : ls.size = 7) (hst : (rest.map fun v => v.category).sum ≤ 8) {st0 : List Value} (hst0 : st0 = As.reverse ++ .ref b :: rest) (hdg : decode code pc = .ok (.invokespecial idx, 3)) (hcells : cells + mc1 ≤ R.cells) (hslots : slots + ms1 ≤ R.slots)
    (kk : ∀ (u : List Nat) (H1 : Heap) (locs1 : List Loc), va_P E.1 classes (wr ++ wcf u) H1 → va_D A (wr ++ wcf u) → va_S A s.heap H1 locs1 → W p l e R s m args below meth c H1 locs1 (cells + mc1) (slots + ms1) Q (F0 m (pc + 3) ls rest)) :
    W p l e R s m args below meth c H locs cells slots Q (F0 m pc ls st0) := by
  subst hst0
  obtain ⟨hx, hb, hml, hown, hts, hK, hN, hO, hT9, hAO⟩ := C
  obtain ⟨k1, k2, k3, k4, k5, k6⟩ := K
  have tg := hts
  have hPc : va_P E.1 classes [(b, ob)] H := va_P_sub [i] hC hP
  have hDc := hD.sub [i] rfl hC
  have hFc := va_free (wc := [(b, ob)]) hD hS hA [i] hC
  have cw : CallB R s args R_law idx y1 cc1 n1 none (wl y1 cc1 n1 none) (rmc d1 mc1 ms1) mc1 ms1 As.length ∧ y1.name = "<init>" ∧ (Cond.instanceMethod y1).before args s = true :=
    ⟨callB_of As.length hts (tg_good k1) rfl rfl rfl (tg _ k2) (tg _ k3) k6 ⟨hfr, hlo⟩, k5, tg _ k4⟩
  refine va_callv (va_runI (As := As) (rest := rest) (Pc := PrN E (.ref b :: As) [(b, ob)] H.size) ⟨hx, hb, hml, hown, hts⟩ (hc H.size) cw ⟨PrN.blind, fun U hU hW => ⟨⟨rfl, by rw [hU], ⟨hN.warm hW, by rw [hU]; exact hO.go hS.2.1 hFc hW⟩, by rw [hU]; exact hPc, va_K.moved hW.alike hK, hDc.weaken (fun _ _ _ _ => trivial)⟩, va_AO.moved hW.alike hAO.1, va_AO.moved hW.alike hAO.2⟩⟩ rfl rfl hls rfl (lv_room hst) hdg ⟨hcells, hslots⟩) hS (fun q _ h => hFc q h) hFc (fun u t H1 locs ht hvm hw hB hz1 hk1 hS => ?_)
  obtain ⟨hP1, hK1, hD1⟩ := hB
  rw [ht] at hP1
  obtain ⟨hP, hD⟩ := va_join hP hD [i] isR hC hR hn hdis hk1 hFc hP1 hD1
  exact kk u H1 locs hP hD hS
end LWN
theorem K_law_28 : KI R_law 28 yX11_init cX11_init 2 0 := ⟨Tg_mem 120 (by decide +kernel) (by decide +kernel), Tg_mem 90 (by decide +kernel) (by decide +kernel), Tg_mem 118 (by decide +kernel) (by decide +kernel), Tg_mem 119 (by decide +kernel) (by decide +kernel), rfl, by decide +kernel⟩
theorem K_law_31 : KI R_law 31 yX12_init cX12_init 1 0 := ⟨Tg_mem 1324 (by decide +kernel) (by decide +kernel), Tg_mem 102 (by decide +kernel) (by decide +kernel), Tg_mem 1322 (by decide +kernel) (by decide +kernel), Tg_mem 1323 (by decide +kernel) (by decide +kernel), rfl, by decide +kernel⟩
theorem dL_0 : decode code 0 = .ok (.new 8, 3) := by decide +kernel
theorem dL_3 : decode code 3 = .ok (.dup, 1) := by decide +kernel
theorem dL_4 : decode code 4 = .ok (.invokespecial 28, 3) := by decide +kernel
theorem dL_7 : decode code 7 = .ok (.astore_n 1, 1) := by decide +kernel
theorem dL_8 : decode code 8 = .ok (.new 29, 3) := by decide +kernel
theorem dL_11 : decode code 11 = .ok (.dup, 1) := by decide +kernel
theorem dL_12 : decode code 12 = .ok (.invokespecial 31, 3) := by decide +kernel
theorem dL_15 : decode code 15 = .ok (.astore_n 2, 1) := by decide +kernel
theorem dL_16 : decode code 16 = .ok (.iconst 1, 1) := by decide +kernel
theorem dL_17 : decode code 17 = .ok (.newarray .long, 2) := by decide +kernel
theorem dL_19 : decode code 19 = .ok (.astore_n 3, 1) := by decide +kernel
theorem dL_20 : decode code 20 = .ok (.iconst 0, 1) := by decide +kernel
theorem dL_21 : decode code 21 = .ok (.istore 4, 2) := by decide +kernel
set_option maxRecDepth 20000 in
set_option maxHeartbeats 4000000 in
theorem WC_0 {E : ENV} {q0 : Nat} {u : List Nat} : ZX11_init E q0 u = WC E q0 u sig0 := rfl
set_option maxRecDepth 20000 in
set_option maxHeartbeats 4000000 in
theorem WM_0 {E : ENV} {q0 : Nat} {u : List Nat} : ZX12_init E q0 u = WM E q0 u tau0 := rfl
theorem range_app (a b : va_W) : (List.range a.length).map (fun i => (a ++ b)[i]?) = a.map some := by
  have := mid_get [] a b
  rw [List.nil_append] at this
  rw [List.range_eq_range']
  exact this
theorem app_last {a : va_W} {n : Nat} (h : a.length = n) (x : Nat × va_E) : ([n] : List Nat).map (fun i => (a ++ [x])[i]?) = [x].map some := by
  have : (a ++ [x])[n]? = some x := by
    rw [List.getElem?_append_right (by omega), h, Nat.sub_self]
    rfl
  rw [List.map_singleton, List.map_singleton, this]
theorem q_al : Cond.arrayClass .long ∈ Tg := Tg_mem 1936 (by decide +kernel) (by decide +kernel)
set_option maxHeartbeats 4000000 in
set_option maxRecDepth 20000 in
theorem law_start {p : Program} {e : Env} {s : State} {m : MethodId} {below : List Frame} {meth : Method} {c : Code} (l : Launch) {b L : Nat} {xs : Nat → Int32} (hL : L ≤ 2560) (C0 : lw_At p s m meth c b L xs) (T7 : ThC l 435) (T24 : ThC l 975) (T41 : ThC l 1419) (T49 : ThC l 1746) (T57 : ThC l 1977) :
    W p l e room_1 s m #[Value.ref b] below meth c s.heap [] 0 0 (lw_Z below #[Value.ref b] s) (entryFrame m ([Value.ref b] : List Value).toArray 7) := by
  obtain ⟨E, C⟩ := law_env C0
  have hx := C.1
  have hb := C.2.1
  have hown := C.2.2.2.1
  have htg := C.2.2.2.2.1
  have hK := C.2.2.2.2.2.1
  have hA : ∀ q : Nat, s.heap.size ≤ q → (fun q : Nat => s.heap.size ≤ q) q := fun _ h => h
  have hS : va_S (fun q : Nat => s.heap.size ≤ q) s.heap s.heap [] := va_S.rf
  have hP : va_P E.1 classes [] s.heap := fun k q h => by simp at h
  have hD : va_D (fun q : Nat => s.heap.size ≤ q) [] := ⟨fun i j p q h => by simp at h, fun k q h => by simp at h⟩
  have hl := lv_entry ([.ref b]) (n := 7) (Nat.le_of_ble_eq_true rfl)
  rw [lg_entry_eq]
  generalize (lg_sl ([.ref b]) ++ List.replicate (7 - (lg_sl ([.ref b])).length) Slot.unset).toArray = ls at hl ⊢
  have hl : lv_has ls 7 [(0, .ref b)] := hl
  refine va_new (ci := 11) (fs := [.null, .null, .null, .null, .null, .null, .null, .null, .null, .null, .null, .null, .null, .null, .null, .null, .null, .int 0]) (C := RX11) (T := TX11) (N := 18) hx hb htg inT11 tyX11 tyX11_ok hown (htg _ (Tg_mem 116 (by decide +kernel) (by decide +kernel))) (htg _ (Tg_mem 117 (by decide +kernel) (by decide +kernel))) (htg _ (Tg_mem 90 (by decide +kernel) (by decide +kernel))) hK hP hD hS hA rfl (by decide +kernel) (Nat.le_of_ble_eq_true rfl) (Nat.le_of_ble_eq_true rfl) dL_0 (fun qx H hP hD hS => ?_)
  have hP : va_P E.1 classes [(qx, .inr (11, [.null, .null, .null, .null, .null, .null, .null, .null, .null, .null, .null, .null, .null, .null, .null, .null, .null, .int 0]))] H := hP
  have hD : va_D (fun q : Nat => s.heap.size ≤ q) [(qx, .inr (11, [.null, .null, .null, .null, .null, .null, .null, .null, .null, .null, .null, .null, .null, .null, .null, .null, .null, .int 0]))] := hD
  refine lv_dup hx hb dL_3 rfl ?_
  refine n_L (wr := []) (As := []) C K_law_28 (Nat.le_of_ble_eq_true rfl) (Nat.le_of_ble_eq_true rfl) (kX11_init l E qx) 0 [] rfl rfl rfl (fun j h => by cases h) hP hD hS hA hl.1 (Nat.le_of_ble_eq_true rfl) rfl dL_4 (Nat.le_of_ble_eq_true rfl) (Nat.le_of_ble_eq_true rfl) (fun u H locs hP hD hS => ?_)
  rw [List.nil_append, WC_0] at hP hD
  refine lv_astore_n (lv' := [(1, .ref qx), (0, .ref b)]) hx hb dL_7 rfl hl (by decide) rfl (fun ls hl => ?_)
  refine va_new (ci := 12) (fs := [.null, .int 0, .null, .null, .null, .null, .int 0, .null, .int 0, .null, .int 0, .int 0, .null, .int 0, .int 0, .int 0, .int 0, .null, .null, .int 0, .int 0, .int 0, .int 0, .int 0, .int 0, .int 0, .int 0, .int 0, .int 0, .null, .int 0, .null, .int 0, .null, .null, .null, .null, .int 0, .null, .null, .null, .null, .null, .null, .int 0, .int 0, .null, .int 0, .int 0, .null, .null, .null]) (C := RX12) (T := TX12) (N := 52) hx hb htg inT12 tyX12 tyX12_ok hown (htg _ (Tg_mem 1320 (by decide +kernel) (by decide +kernel))) (htg _ (Tg_mem 1321 (by decide +kernel) (by decide +kernel))) (htg _ (Tg_mem 102 (by decide +kernel) (by decide +kernel))) hK hP hD hS hA rfl (by decide +kernel) (Nat.le_of_ble_eq_true rfl) (Nat.le_of_ble_eq_true rfl) dL_8 (fun qm H hP hD hS => ?_)
  refine lv_dup hx hb dL_11 rfl ?_
  refine n_L (wr := WC E qx u sig0) (As := []) C K_law_31 (Nat.le_of_ble_eq_true rfl) (Nat.le_of_ble_eq_true rfl) (kX12_init l E qm) 137 (List.range (WC E qx u sig0).length) ?_ (range_app _ _) (nd_range _) (fun j h z => ?_) hP hD hS hA hl.1 (Nat.le_of_ble_eq_true rfl) rfl dL_12 (Nat.le_of_ble_eq_true rfl) (Nat.le_of_ble_eq_true rfl) (fun v H locs hP hD hS => ?_)
  · exact app_last WC_len _
  · have h1 := List.mem_range.1 h
    rw [WC_len] at h1
    have h2 : j = 137 := by simpa using z
    omega
  rw [WM_0] at hP hD
  refine lv_astore_n (lv' := [(2, .ref qm), (1, .ref qx), (0, .ref b)]) hx hb dL_15 rfl hl (by decide) rfl (fun ls hl => ?_)
  refine lv_iconst (v := 1) hx hb dL_16 (by decide) ?_
  refine va_newa (atype := .long) (ty := .long) (a0 := (1, .inr (.inl (fun _ => 0)))) hx hb (htg _ q_al) rfl hK hP hD hS hA (fun _ => rfl) (by decide) rfl (Nat.le_of_ble_eq_true rfl) (Nat.le_of_ble_eq_true rfl) (Nat.le_of_ble_eq_true rfl) dL_17 (fun qo cA H hK1 hP hD hS => ?_)
  have e1 : cA = E.2.2.2.2.2.2.1 := n_arr (ty := .long) (hK1.2 6 (cA, .long) rfl).2 (hK.2 5 (E.2.2.2.2.2.2.1, .long) rfl).2
  subst e1
  rw [List.append_assoc] at hP hD
  refine lv_astore_n (lv' := [(3, .ref qo), (2, .ref qm), (1, .ref qx), (0, .ref b)]) hx hb dL_19 rfl hl (by decide) rfl (fun ls hl => ?_)
  refine lv_iconst (v := 0) hx hb dL_20 (by decide) ?_
  refine lv_istore (lv' := [(4, .int 0), (3, .ref qo), (2, .ref qm), (1, .ref qx), (0, .ref b)]) hx hb dL_21 hl (by decide) rfl (fun ls hl => ?_)
  exact law_loop hL C0 C T7 T24 T41 T49 T57 512 0 sig0 tau0 (fun _ => 0) _ _ H _ ls (by omega) (by omega) R_start (Nat.le_of_ble_eq_true rfl) (Nat.le_of_ble_eq_true rfl) (lv_sub hl [4, 3, 2, 1, 0] rfl) hP hD hS
