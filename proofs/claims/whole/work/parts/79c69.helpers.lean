theorem dL_of_0 : decode cL_of 0 = .ok (.aload_n 3, 1) := by decide +kernel
theorem dL_of_1 : decode cL_of 1 = .ok (.iconst 0, 1) := by decide +kernel
theorem dL_of_2 : decode cL_of 2 = .ok (.aload_n 0, 1) := by decide +kernel
theorem dL_of_3 : decode cL_of 3 = .ok (.iload_n 1, 1) := by decide +kernel
theorem dL_of_4 : decode cL_of 4 = .ok (.iload_n 2, 1) := by decide +kernel
theorem dL_of_5 : decode cL_of 5 = .ok (.invokevirtual 7, 3) := by decide +kernel
theorem dL_of_8 : decode cL_of 8 = .ok (.i2l, 1) := by decide +kernel
theorem dL_of_9 : decode cL_of 9 = .ok (.lastore, 1) := by decide +kernel
theorem dL_of_10 : decode cL_of 10 = .ok (.goto 7, 3) := by decide +kernel
theorem dL_of_13 : decode cL_of 13 = .ok (.astore 4, 2) := by decide +kernel
theorem dL_of_15 : decode cL_of 15 = .ok (.iconst 1, 1) := by decide +kernel
theorem dL_of_16 : decode cL_of 16 = .ok (.ireturn, 1) := by decide +kernel
theorem dL_of_17 : decode cL_of 17 = .ok (.iconst 0, 1) := by decide +kernel
theorem dL_of_18 : decode cL_of 18 = .ok (.ireturn, 1) := by decide +kernel
theorem K_law_7 : KV R_law 7 yX11_of cX11_of 3 (some .int) 2 := ⟨Tg_mem 1230 (by decide +kernel) (by decide +kernel), Tg_mem 90 (by decide +kernel) (by decide +kernel), Tg_mem 1227 (by decide +kernel) (by decide +kernel), Tg_mem 1228 (by decide +kernel) (by decide +kernel), Tg_mem 1229 (by decide +kernel) (by decide +kernel), by decide +kernel⟩
set_option maxHeartbeats 4000000 in
theorem hR_of (l : Launch) (E : ENV) (qx qm qo : Nat) (u v : List Nat) (σ : CS) (τ : MS) (lo : Nat → Int64) (p1 p2 : Int32) {o : Int32 × CS} (ho : x_of σ p1 p2 = some o) : CHm l E yL_of cL_of 5 [(0, 10, 13, 13)] [.ref qx, .int p1, .int p2, .ref qo] (WL E qx qm qo u v σ τ lo) (WL E qx qm qo u v o.2 τ (vp_updL lo 0 o.1.toInt64)) 0 := by
  refine begH (Nat.le_of_ble_eq_true rfl) ?_
  intro p e s m args below meth c A Q ls C hTX htab hA hret hl hP hD hS
  have hx := C.1
  have hb := C.2.1
  have hK := C.2.2.2.2.2.1
  have hl : lv_has ls 5 [(0, .ref qx), (1, .int p1), (2, .int p2), (3, .ref qo)] := hl
  refine lv_aload_n hx hb dL_of_0 rfl (lv_at hl 3 rfl) ?_
  refine lv_iconst (v := 0) hx hb dL_of_1 (by decide) ?_
  refine lv_aload_n hx hb dL_of_2 rfl (lv_at hl 0 rfl) ?_
  refine lv_iload_n hx hb dL_of_3 rfl (lv_at hl 1 rfl) ?_
  refine lv_iload_n hx hb dL_of_4 rfl (lv_at hl 2 rfl) ?_
  obtain ⟨fx, hrx⟩ := @WL_x E qx qm qo u v σ τ lo
  refine k_G (As := [.int p1, .int p2]) C K_law_7 ⟨Nat.le_of_ble_eq_true rfl, Nat.le_of_ble_eq_true rfl⟩ (Nat.zero_le _) (Nat.zero_le _) ((X_of l E qx u σ p1 p2 ho).x qm qo v τ lo) (by rw [WL_len, WL_len]) (ci := 11) rfl rfl hrx hP hD hS hA hl.1 (Nat.le_of_ble_eq_true rfl) rfl dL_of_5 (fun H locs hP hD hS => ?_)
  refine lv_i2l (v := o.1.toInt64) hx hb dL_of_8 rfl ?_
  refine va_last hx hb hK hP hD hS 163 5 WL_o rfl (vin_in (by decide)) dL_of_9 (fun H locs hP hD hS => ?_)
  rw [WL_set] at hP hD
  refine lv_goto (tgt := 17) hx hb dL_of_10 (by decide) ?_
  refine lv_iconst (v := 0) hx hb dL_of_17 (by decide) ?_
  refine W.widen (k := 1) (n := 6) (Nat.zero_le _) (Nat.zero_le _) ?_
  exact hret _ _ _ _ dL_of_18 hP hD hS
set_option maxHeartbeats 4000000 in
set_option maxRecDepth 20000 in
theorem hT_of (l : Launch) (hlt : l.stackTraces = false) (HC : CatchP l) (E : ENV) (qx qm qo : Nat) (u v : List Nat) (σ : CS) (τ : MS) (lo : Nat → Int64) (p1 p2 : Int32) (ht : fX11_of_T (σ.1 26) p1 p2 = some ()) : CHm l E yL_of cL_of 5 [(0, 10, 13, 13)] [.ref qx, .int p1, .int p2, .ref qo] (WL E qx qm qo u v σ τ lo) (WL E qx qm qo u v σ τ lo) 1 := by
  refine begH (Nat.le_of_ble_eq_true rfl) ?_
  intro p e s m args below meth c A Q ls C hTX htab hA hret hl hP hD hS
  have hx := C.1
  have hb := C.2.1
  have hK := C.2.2.2.2.2.1
  have hl : lv_has ls 5 [(0, .ref qx), (1, .int p1), (2, .int p2), (3, .ref qo)] := hl
  refine lv_aload_n hx hb dL_of_0 rfl (lv_at hl 3 rfl) ?_
  refine lv_iconst (v := 0) hx hb dL_of_1 (by decide) ?_
  refine lv_aload_n hx hb dL_of_2 rfl (lv_at hl 0 rfl) ?_
  refine lv_iload_n hx hb dL_of_3 rfl (lv_at hl 1 rfl) ?_
  refine lv_iload_n hx hb dL_of_4 rfl (lv_at hl 2 rfl) ?_
  obtain ⟨fx, hrx⟩ := @WL_x E qx qm qo u v σ τ lo
  refine k_TX (As := [.int p1, .int p2]) C K_law_7 hTX ⟨Nat.le_of_ble_eq_true rfl, Nat.le_of_ble_eq_true rfl⟩ (Nat.le_of_ble_eq_true rfl) (Nat.le_of_ble_eq_true rfl) (kX11_of_T l hlt E qx (u.getD 0 0) (u.getD 2 0) (u.getD 6 0) (u.getD 8 0) (u.getD 13 0) (u.getD 17 0) (u.getD 23 0) (u.getD 29 0) (u.getD 35 0) (u.getD 63 0) (u.getD 67 0) (u.getD 117 0) (u.getD 118 0) (u.getD 119 0) (u.getD 122 0) (u.getD 126 0) (u.getD 127 0) (u.getD 3 0) (u.getD 4 0) (u.getD 5 0) (u.getD 18 0) (u.getD 22 0) (u.getD 19 0) (u.getD 20 0) (u.getD 21 0) (σ.1 25) (σ.1 26) (σ.1 8) (σ.1 10) (σ.1 12) (σ.1 9) (σ.1 11) (σ.2.1 10) (σ.2.1 27) (σ.2.1 26) (σ.2.1 11) (σ.2.1 12) (σ.2.1 28) p1 p2 ht) [0, 3, 18, 19, 22, 6, 5, 21, 20, 4] rfl rfl rfl (ci := 11) rfl rfl (q0 := 0) rfl hP hD hS hA hl.1 (Nat.le_of_ble_eq_true rfl) rfl dL_of_5 (fun H locs q9 ce hP hD hS hce hcv hcl => ?_)
  refine HC p e _ s m args below meth c H locs _ _ Q _ ls _ ⟨0, 10, 13, 13⟩ ce q9 C.2.2.2.1 htab (by decide) (by decide) (C.2.2.2.2.1 _ (Tg_mem 1226 (by decide +kernel) (by decide +kernel))) hce hcv hcl ?_
  refine lv_astore (lv' := _) hx hb dL_of_13 hl (by decide) rfl (fun ls hl => ?_)
  refine lv_iconst (v := 1) hx hb dL_of_15 (by decide) ?_
  exact hret _ _ _ _ dL_of_16 hP hD hS
theorem dL_net_0 : decode cL_net 0 = .ok (.aload_n 2, 1) := by decide +kernel
theorem dL_net_1 : decode cL_net 1 = .ok (.iconst 0, 1) := by decide +kernel
theorem dL_net_2 : decode cL_net 2 = .ok (.aload_n 0, 1) := by decide +kernel
theorem dL_net_3 : decode cL_net 3 = .ok (.iload_n 1, 1) := by decide +kernel
theorem dL_net_4 : decode cL_net 4 = .ok (.invokevirtual 15, 3) := by decide +kernel
theorem dL_net_7 : decode cL_net 7 = .ok (.i2l, 1) := by decide +kernel
theorem dL_net_8 : decode cL_net 8 = .ok (.lastore, 1) := by decide +kernel
theorem dL_net_9 : decode cL_net 9 = .ok (.goto 6, 3) := by decide +kernel
theorem dL_net_12 : decode cL_net 12 = .ok (.astore_n 3, 1) := by decide +kernel
theorem dL_net_13 : decode cL_net 13 = .ok (.iconst 1, 1) := by decide +kernel
theorem dL_net_14 : decode cL_net 14 = .ok (.ireturn, 1) := by decide +kernel
theorem dL_net_15 : decode cL_net 15 = .ok (.iconst 0, 1) := by decide +kernel
theorem dL_net_16 : decode cL_net 16 = .ok (.ireturn, 1) := by decide +kernel
theorem K_law_15 : KV R_law 15 yX11_net cX11_net 2 (some .int) 1 := ⟨Tg_mem 1298 (by decide +kernel) (by decide +kernel), Tg_mem 90 (by decide +kernel) (by decide +kernel), Tg_mem 1295 (by decide +kernel) (by decide +kernel), Tg_mem 1296 (by decide +kernel) (by decide +kernel), Tg_mem 1297 (by decide +kernel) (by decide +kernel), by decide +kernel⟩
set_option maxHeartbeats 4000000 in
theorem hR_net (l : Launch) (E : ENV) (qx qm qo : Nat) (u v : List Nat) (σ : CS) (τ : MS) (lo : Nat → Int64) (p1 : Int32) {o : Int32 × CS} (ho : x_net σ p1 = some o) : CHm l E yL_net cL_net 4 [(0, 9, 12, 13)] [.ref qx, .int p1, .ref qo] (WL E qx qm qo u v σ τ lo) (WL E qx qm qo u v o.2 τ (vp_updL lo 0 o.1.toInt64)) 0 := by
  refine begH (Nat.le_of_ble_eq_true rfl) ?_
  intro p e s m args below meth c A Q ls C hTX htab hA hret hl hP hD hS
  have hx := C.1
  have hb := C.2.1
  have hK := C.2.2.2.2.2.1
  have hl : lv_has ls 4 [(0, .ref qx), (1, .int p1), (2, .ref qo)] := hl
  refine lv_aload_n hx hb dL_net_0 rfl (lv_at hl 2 rfl) ?_
  refine lv_iconst (v := 0) hx hb dL_net_1 (by decide) ?_
  refine lv_aload_n hx hb dL_net_2 rfl (lv_at hl 0 rfl) ?_
  refine lv_iload_n hx hb dL_net_3 rfl (lv_at hl 1 rfl) ?_
  obtain ⟨fx, hrx⟩ := @WL_x E qx qm qo u v σ τ lo
  refine k_G (As := [.int p1]) C K_law_15 ⟨Nat.le_of_ble_eq_true rfl, Nat.le_of_ble_eq_true rfl⟩ (Nat.zero_le _) (Nat.zero_le _) ((X_net l E qx u σ p1 ho).x qm qo v τ lo) (by rw [WL_len, WL_len]) (ci := 11) rfl rfl hrx hP hD hS hA hl.1 (Nat.le_of_ble_eq_true rfl) rfl dL_net_4 (fun H locs hP hD hS => ?_)
  refine lv_i2l (v := o.1.toInt64) hx hb dL_net_7 rfl ?_
  refine va_last hx hb hK hP hD hS 163 5 WL_o rfl (vin_in (by decide)) dL_net_8 (fun H locs hP hD hS => ?_)
  rw [WL_set] at hP hD
  refine lv_goto (tgt := 15) hx hb dL_net_9 (by decide) ?_
  refine lv_iconst (v := 0) hx hb dL_net_15 (by decide) ?_
  refine W.widen (k := 1) (n := 6) (Nat.zero_le _) (Nat.zero_le _) ?_
  exact hret _ _ _ _ dL_net_16 hP hD hS
set_option maxHeartbeats 4000000 in
set_option maxRecDepth 20000 in
theorem hT_net (l : Launch) (hlt : l.stackTraces = false) (HC : CatchP l) (E : ENV) (qx qm qo : Nat) (u v : List Nat) (σ : CS) (τ : MS) (lo : Nat → Int64) (p1 : Int32) (ht : fX11_net_T (σ.1 26) p1 = some ()) : CHm l E yL_net cL_net 4 [(0, 9, 12, 13)] [.ref qx, .int p1, .ref qo] (WL E qx qm qo u v σ τ lo) (WL E qx qm qo u v σ τ lo) 1 := by
  refine begH (Nat.le_of_ble_eq_true rfl) ?_
  intro p e s m args below meth c A Q ls C hTX htab hA hret hl hP hD hS
  have hx := C.1
  have hb := C.2.1
  have hK := C.2.2.2.2.2.1
  have hl : lv_has ls 4 [(0, .ref qx), (1, .int p1), (2, .ref qo)] := hl
  refine lv_aload_n hx hb dL_net_0 rfl (lv_at hl 2 rfl) ?_
  refine lv_iconst (v := 0) hx hb dL_net_1 (by decide) ?_
  refine lv_aload_n hx hb dL_net_2 rfl (lv_at hl 0 rfl) ?_
  refine lv_iload_n hx hb dL_net_3 rfl (lv_at hl 1 rfl) ?_
  obtain ⟨fx, hrx⟩ := @WL_x E qx qm qo u v σ τ lo
  refine k_TX (As := [.int p1]) C K_law_15 hTX ⟨Nat.le_of_ble_eq_true rfl, Nat.le_of_ble_eq_true rfl⟩ (Nat.le_of_ble_eq_true rfl) (Nat.le_of_ble_eq_true rfl) (kX11_net_T l hlt E qx (u.getD 0 0) (u.getD 2 0) (u.getD 6 0) (u.getD 8 0) (u.getD 13 0) (u.getD 17 0) (u.getD 23 0) (u.getD 29 0) (u.getD 35 0) (u.getD 63 0) (u.getD 67 0) (u.getD 117 0) (u.getD 118 0) (u.getD 119 0) (u.getD 122 0) (u.getD 126 0) (u.getD 127 0) (u.getD 3 0) (u.getD 4 0) (u.getD 5 0) (u.getD 18 0) (u.getD 22 0) (u.getD 19 0) (u.getD 20 0) (u.getD 21 0) (σ.1 25) (σ.1 26) (σ.1 8) (σ.1 10) (σ.1 12) (σ.1 9) (σ.1 11) (σ.2.1 10) p1 ht) [0, 3, 18, 19, 22] rfl rfl rfl (ci := 11) rfl rfl (q0 := 0) rfl hP hD hS hA hl.1 (Nat.le_of_ble_eq_true rfl) rfl dL_net_4 (fun H locs q9 ce hP hD hS hce hcv hcl => ?_)
  refine HC p e _ s m args below meth c H locs _ _ Q _ ls _ ⟨0, 9, 12, 13⟩ ce q9 C.2.2.2.1 htab (by decide) (by decide) (C.2.2.2.2.1 _ (Tg_mem 1226 (by decide +kernel) (by decide +kernel))) hce hcv hcl ?_
  refine lv_astore_n (lv' := _) hx hb dL_net_12 rfl hl (by decide) rfl (fun ls hl => ?_)
  refine lv_iconst (v := 1) hx hb dL_net_13 (by decide) ?_
  exact hret _ _ _ _ dL_net_14 hP hD hS
theorem dL_bare_0 : decode cL_bare 0 = .ok (.aload_n 3, 1) := by decide +kernel
theorem dL_bare_1 : decode cL_bare 1 = .ok (.iconst 0, 1) := by decide +kernel
theorem dL_bare_2 : decode cL_bare 2 = .ok (.aload_n 0, 1) := by decide +kernel
theorem dL_bare_3 : decode cL_bare 3 = .ok (.iload_n 1, 1) := by decide +kernel
theorem dL_bare_4 : decode cL_bare 4 = .ok (.iload_n 2, 1) := by decide +kernel
theorem dL_bare_5 : decode cL_bare 5 = .ok (.invokevirtual 19, 3) := by decide +kernel
theorem dL_bare_8 : decode cL_bare 8 = .ok (.i2l, 1) := by decide +kernel
theorem dL_bare_9 : decode cL_bare 9 = .ok (.lastore, 1) := by decide +kernel
theorem dL_bare_10 : decode cL_bare 10 = .ok (.goto 7, 3) := by decide +kernel
theorem dL_bare_13 : decode cL_bare 13 = .ok (.astore 4, 2) := by decide +kernel
theorem dL_bare_15 : decode cL_bare 15 = .ok (.iconst 1, 1) := by decide +kernel
theorem dL_bare_16 : decode cL_bare 16 = .ok (.ireturn, 1) := by decide +kernel
theorem dL_bare_17 : decode cL_bare 17 = .ok (.iconst 0, 1) := by decide +kernel
theorem dL_bare_18 : decode cL_bare 18 = .ok (.ireturn, 1) := by decide +kernel
theorem K_law_19 : KV R_law 19 yX11_bare cX11_bare 4 (some .int) 2 := ⟨Tg_mem 1305 (by decide +kernel) (by decide +kernel), Tg_mem 90 (by decide +kernel) (by decide +kernel), Tg_mem 1302 (by decide +kernel) (by decide +kernel), Tg_mem 1303 (by decide +kernel) (by decide +kernel), Tg_mem 1304 (by decide +kernel) (by decide +kernel), by decide +kernel⟩
set_option maxHeartbeats 4000000 in
theorem hR_bare (l : Launch) (E : ENV) (qx qm qo : Nat) (u v : List Nat) (σ : CS) (τ : MS) (lo : Nat → Int64) (p1 p2 : Int32) {o : Int32 × CS} (ho : x_bare σ p1 p2 = some o) : CHm l E yL_bare cL_bare 5 [(0, 10, 13, 13)] [.ref qx, .int p1, .int p2, .ref qo] (WL E qx qm qo u v σ τ lo) (WL E qx qm qo u v o.2 τ (vp_updL lo 0 o.1.toInt64)) 0 := by
  refine begH (Nat.le_of_ble_eq_true rfl) ?_
  intro p e s m args below meth c A Q ls C hTX htab hA hret hl hP hD hS
  have hx := C.1
  have hb := C.2.1
  have hK := C.2.2.2.2.2.1
  have hl : lv_has ls 5 [(0, .ref qx), (1, .int p1), (2, .int p2), (3, .ref qo)] := hl
  refine lv_aload_n hx hb dL_bare_0 rfl (lv_at hl 3 rfl) ?_
  refine lv_iconst (v := 0) hx hb dL_bare_1 (by decide) ?_
  refine lv_aload_n hx hb dL_bare_2 rfl (lv_at hl 0 rfl) ?_
  refine lv_iload_n hx hb dL_bare_3 rfl (lv_at hl 1 rfl) ?_
  refine lv_iload_n hx hb dL_bare_4 rfl (lv_at hl 2 rfl) ?_
  obtain ⟨fx, hrx⟩ := @WL_x E qx qm qo u v σ τ lo
  refine k_G (As := [.int p1, .int p2]) C K_law_19 ⟨Nat.le_of_ble_eq_true rfl, Nat.le_of_ble_eq_true rfl⟩ (Nat.zero_le _) (Nat.zero_le _) ((X_bare l E qx u σ p1 p2 ho).x qm qo v τ lo) (by rw [WL_len, WL_len]) (ci := 11) rfl rfl hrx hP hD hS hA hl.1 (Nat.le_of_ble_eq_true rfl) rfl dL_bare_5 (fun H locs hP hD hS => ?_)
  refine lv_i2l (v := o.1.toInt64) hx hb dL_bare_8 rfl ?_
  refine va_last hx hb hK hP hD hS 163 5 WL_o rfl (vin_in (by decide)) dL_bare_9 (fun H locs hP hD hS => ?_)
  rw [WL_set] at hP hD
  refine lv_goto (tgt := 17) hx hb dL_bare_10 (by decide) ?_
  refine lv_iconst (v := 0) hx hb dL_bare_17 (by decide) ?_
  refine W.widen (k := 1) (n := 6) (Nat.zero_le _) (Nat.zero_le _) ?_
  exact hret _ _ _ _ dL_bare_18 hP hD hS
set_option maxHeartbeats 4000000 in
set_option maxRecDepth 20000 in
theorem hT_bare (l : Launch) (hlt : l.stackTraces = false) (HC : CatchP l) (E : ENV) (qx qm qo : Nat) (u v : List Nat) (σ : CS) (τ : MS) (lo : Nat → Int64) (p1 p2 : Int32) (ht : fX11_bare_T (σ.1 26) p1 p2 = some ()) : CHm l E yL_bare cL_bare 5 [(0, 10, 13, 13)] [.ref qx, .int p1, .int p2, .ref qo] (WL E qx qm qo u v σ τ lo) (WL E qx qm qo u v σ τ lo) 1 := by
  refine begH (Nat.le_of_ble_eq_true rfl) ?_
  intro p e s m args below meth c A Q ls C hTX htab hA hret hl hP hD hS
  have hx := C.1
  have hb := C.2.1
  have hK := C.2.2.2.2.2.1
  have hl : lv_has ls 5 [(0, .ref qx), (1, .int p1), (2, .int p2), (3, .ref qo)] := hl
  refine lv_aload_n hx hb dL_bare_0 rfl (lv_at hl 3 rfl) ?_
  refine lv_iconst (v := 0) hx hb dL_bare_1 (by decide) ?_
  refine lv_aload_n hx hb dL_bare_2 rfl (lv_at hl 0 rfl) ?_
  refine lv_iload_n hx hb dL_bare_3 rfl (lv_at hl 1 rfl) ?_
  refine lv_iload_n hx hb dL_bare_4 rfl (lv_at hl 2 rfl) ?_
  obtain ⟨fx, hrx⟩ := @WL_x E qx qm qo u v σ τ lo
  refine k_TX (As := [.int p1, .int p2]) C K_law_19 hTX ⟨Nat.le_of_ble_eq_true rfl, Nat.le_of_ble_eq_true rfl⟩ (Nat.le_of_ble_eq_true rfl) (Nat.le_of_ble_eq_true rfl) (kX11_bare_T l hlt E qx (u.getD 0 0) (u.getD 2 0) (u.getD 6 0) (u.getD 8 0) (u.getD 13 0) (u.getD 17 0) (u.getD 23 0) (u.getD 29 0) (u.getD 35 0) (u.getD 63 0) (u.getD 67 0) (u.getD 117 0) (u.getD 118 0) (u.getD 119 0) (u.getD 122 0) (u.getD 126 0) (u.getD 127 0) (u.getD 3 0) (u.getD 4 0) (u.getD 5 0) (u.getD 18 0) (u.getD 22 0) (u.getD 24 0) (u.getD 28 0) (u.getD 25 0) (u.getD 26 0) (u.getD 27 0) (u.getD 7 0) (u.getD 9 0) (u.getD 10 0) (u.getD 11 0) (u.getD 12 0) (u.getD 19 0) (u.getD 20 0) (u.getD 21 0) (σ.1 25) (σ.1 26) (σ.1 8) (σ.1 10) (σ.1 12) (σ.1 9) (σ.1 28) (σ.1 30) (σ.1 32) (σ.1 29) (σ.1 31) (σ.1 34) (σ.1 33) (σ.1 19) (σ.1 18) (σ.1 11) (σ.2.1 35) (σ.2.1 34) (σ.2.1 33) (σ.2.1 32) (σ.2.1 36) (σ.2.1 28) (σ.2.1 26) (σ.2.1 20) (σ.2.1 19) (σ.2.1 17) (σ.2.1 12) (σ.2.1 11) (σ.2.1 10) p1 p2 ht) [0, 3, 18, 24, 25, 7, 9, 19, 26, 27, 28, 29, 8, 4, 5, 13, 12, 10, 20, 21, 22] rfl rfl rfl (ci := 11) rfl rfl (q0 := 0) rfl hP hD hS hA hl.1 (Nat.le_of_ble_eq_true rfl) rfl dL_bare_5 (fun H locs q9 ce hP hD hS hce hcv hcl => ?_)
  refine HC p e _ s m args below meth c H locs _ _ Q _ ls _ ⟨0, 10, 13, 13⟩ ce q9 C.2.2.2.1 htab (by decide) (by decide) (C.2.2.2.2.1 _ (Tg_mem 1226 (by decide +kernel) (by decide +kernel))) hce hcv hcl ?_
  refine lv_astore (lv' := _) hx hb dL_bare_13 hl (by decide) rfl (fun ls hl => ?_)
  refine lv_iconst (v := 1) hx hb dL_bare_15 (by decide) ?_
  exact hret _ _ _ _ dL_bare_16 hP hD hS
theorem dL_premium_0 : decode cL_premium 0 = .ok (.aload_n 2, 1) := by decide +kernel
theorem dL_premium_1 : decode cL_premium 1 = .ok (.iconst 0, 1) := by decide +kernel
theorem dL_premium_2 : decode cL_premium 2 = .ok (.aload_n 0, 1) := by decide +kernel
theorem dL_premium_3 : decode cL_premium 3 = .ok (.iload_n 1, 1) := by decide +kernel
theorem dL_premium_4 : decode cL_premium 4 = .ok (.invokevirtual 22, 3) := by decide +kernel
theorem dL_premium_7 : decode cL_premium 7 = .ok (.i2l, 1) := by decide +kernel
theorem dL_premium_8 : decode cL_premium 8 = .ok (.lastore, 1) := by decide +kernel
theorem dL_premium_9 : decode cL_premium 9 = .ok (.goto 6, 3) := by decide +kernel
theorem dL_premium_12 : decode cL_premium 12 = .ok (.astore_n 3, 1) := by decide +kernel
theorem dL_premium_13 : decode cL_premium 13 = .ok (.iconst 1, 1) := by decide +kernel
theorem dL_premium_14 : decode cL_premium 14 = .ok (.ireturn, 1) := by decide +kernel
theorem dL_premium_15 : decode cL_premium 15 = .ok (.iconst 0, 1) := by decide +kernel
theorem dL_premium_16 : decode cL_premium 16 = .ok (.ireturn, 1) := by decide +kernel
theorem K_law_22 : KV R_law 22 yX11_premium cX11_premium 5 (some .int) 1 := ⟨Tg_mem 1312 (by decide +kernel) (by decide +kernel), Tg_mem 90 (by decide +kernel) (by decide +kernel), Tg_mem 1309 (by decide +kernel) (by decide +kernel), Tg_mem 1310 (by decide +kernel) (by decide +kernel), Tg_mem 1311 (by decide +kernel) (by decide +kernel), by decide +kernel⟩
set_option maxHeartbeats 4000000 in
theorem hR_premium (l : Launch) (E : ENV) (qx qm qo : Nat) (u v : List Nat) (σ : CS) (τ : MS) (lo : Nat → Int64) (p1 : Int32) {o : Int32 × CS} (ho : x_premium σ p1 = some o) : CHm l E yL_premium cL_premium 4 [(0, 9, 12, 13)] [.ref qx, .int p1, .ref qo] (WL E qx qm qo u v σ τ lo) (WL E qx qm qo u v o.2 τ (vp_updL lo 0 o.1.toInt64)) 0 := by
  refine begH (Nat.le_of_ble_eq_true rfl) ?_
  intro p e s m args below meth c A Q ls C hTX htab hA hret hl hP hD hS
  have hx := C.1
  have hb := C.2.1
  have hK := C.2.2.2.2.2.1
  have hl : lv_has ls 4 [(0, .ref qx), (1, .int p1), (2, .ref qo)] := hl
  refine lv_aload_n hx hb dL_premium_0 rfl (lv_at hl 2 rfl) ?_
  refine lv_iconst (v := 0) hx hb dL_premium_1 (by decide) ?_
  refine lv_aload_n hx hb dL_premium_2 rfl (lv_at hl 0 rfl) ?_
  refine lv_iload_n hx hb dL_premium_3 rfl (lv_at hl 1 rfl) ?_
  obtain ⟨fx, hrx⟩ := @WL_x E qx qm qo u v σ τ lo
  refine k_G (As := [.int p1]) C K_law_22 ⟨Nat.le_of_ble_eq_true rfl, Nat.le_of_ble_eq_true rfl⟩ (Nat.zero_le _) (Nat.zero_le _) ((X_premium l E qx u σ p1 ho).x qm qo v τ lo) (by rw [WL_len, WL_len]) (ci := 11) rfl rfl hrx hP hD hS hA hl.1 (Nat.le_of_ble_eq_true rfl) rfl dL_premium_4 (fun H locs hP hD hS => ?_)
  refine lv_i2l (v := o.1.toInt64) hx hb dL_premium_7 rfl ?_
  refine va_last hx hb hK hP hD hS 163 5 WL_o rfl (vin_in (by decide)) dL_premium_8 (fun H locs hP hD hS => ?_)
  rw [WL_set] at hP hD
  refine lv_goto (tgt := 15) hx hb dL_premium_9 (by decide) ?_
  refine lv_iconst (v := 0) hx hb dL_premium_15 (by decide) ?_
  refine W.widen (k := 1) (n := 6) (Nat.zero_le _) (Nat.zero_le _) ?_
  exact hret _ _ _ _ dL_premium_16 hP hD hS
set_option maxHeartbeats 4000000 in
set_option maxRecDepth 20000 in
theorem hT_premium (l : Launch) (hlt : l.stackTraces = false) (HC : CatchP l) (E : ENV) (qx qm qo : Nat) (u v : List Nat) (σ : CS) (τ : MS) (lo : Nat → Int64) (p1 : Int32) (ht : fX11_premium_T (σ.1 26) p1 = some ()) : CHm l E yL_premium cL_premium 4 [(0, 9, 12, 13)] [.ref qx, .int p1, .ref qo] (WL E qx qm qo u v σ τ lo) (WL E qx qm qo u v σ τ lo) 1 := by
  refine begH (Nat.le_of_ble_eq_true rfl) ?_
  intro p e s m args below meth c A Q ls C hTX htab hA hret hl hP hD hS
  have hx := C.1
  have hb := C.2.1
  have hK := C.2.2.2.2.2.1
  have hl : lv_has ls 4 [(0, .ref qx), (1, .int p1), (2, .ref qo)] := hl
  refine lv_aload_n hx hb dL_premium_0 rfl (lv_at hl 2 rfl) ?_
  refine lv_iconst (v := 0) hx hb dL_premium_1 (by decide) ?_
  refine lv_aload_n hx hb dL_premium_2 rfl (lv_at hl 0 rfl) ?_
  refine lv_iload_n hx hb dL_premium_3 rfl (lv_at hl 1 rfl) ?_
  obtain ⟨fx, hrx⟩ := @WL_x E qx qm qo u v σ τ lo
  refine k_TX (As := [.int p1]) C K_law_22 hTX ⟨Nat.le_of_ble_eq_true rfl, Nat.le_of_ble_eq_true rfl⟩ (Nat.le_of_ble_eq_true rfl) (Nat.le_of_ble_eq_true rfl) (kX11_premium_T l hlt E qx (u.getD 0 0) (u.getD 2 0) (u.getD 6 0) (u.getD 8 0) (u.getD 13 0) (u.getD 17 0) (u.getD 23 0) (u.getD 29 0) (u.getD 35 0) (u.getD 63 0) (u.getD 67 0) (u.getD 117 0) (u.getD 118 0) (u.getD 119 0) (u.getD 122 0) (u.getD 126 0) (u.getD 127 0) (u.getD 3 0) (u.getD 4 0) (u.getD 5 0) (u.getD 18 0) (u.getD 22 0) (u.getD 24 0) (u.getD 28 0) (u.getD 25 0) (u.getD 26 0) (u.getD 27 0) (u.getD 7 0) (u.getD 9 0) (u.getD 10 0) (u.getD 11 0) (u.getD 12 0) (u.getD 19 0) (u.getD 20 0) (u.getD 21 0) (σ.1 25) (σ.1 26) (σ.1 8) (σ.1 10) (σ.1 12) (σ.1 9) (σ.1 28) (σ.1 30) (σ.1 32) (σ.1 29) (σ.1 31) (σ.1 34) (σ.1 33) (σ.1 19) (σ.1 18) (σ.1 11) (σ.2.1 35) (σ.2.1 34) (σ.2.1 33) (σ.2.1 32) (σ.2.1 36) (σ.2.1 28) (σ.2.1 26) (σ.2.1 20) (σ.2.1 19) (σ.2.1 17) (σ.2.1 12) (σ.2.1 11) (σ.2.1 10) (σ.2.1 25) p1 ht) [0, 3, 18, 24, 25, 7, 9, 19, 26, 27, 28, 29, 8, 4, 5, 13, 12, 10, 20, 21, 22, 128] rfl rfl rfl (ci := 11) rfl rfl (q0 := 0) rfl hP hD hS hA hl.1 (Nat.le_of_ble_eq_true rfl) rfl dL_premium_4 (fun H locs q9 ce hP hD hS hce hcv hcl => ?_)
  refine HC p e _ s m args below meth c H locs _ _ Q _ ls _ ⟨0, 9, 12, 13⟩ ce q9 C.2.2.2.1 htab (by decide) (by decide) (C.2.2.2.2.1 _ (Tg_mem 1226 (by decide +kernel) (by decide +kernel))) hce hcv hcl ?_
  refine lv_astore_n (lv' := _) hx hb dL_premium_12 rfl hl (by decide) rfl (fun ls hl => ?_)
  refine lv_iconst (v := 1) hx hb dL_premium_13 (by decide) ?_
  exact hret _ _ _ _ dL_premium_14 hP hD hS
theorem dL_row_0 : decode cL_row 0 = .ok (.aload_n 2, 1) := by decide +kernel
theorem dL_row_1 : decode cL_row 1 = .ok (.iconst 0, 1) := by decide +kernel
theorem dL_row_2 : decode cL_row 2 = .ok (.aload_n 0, 1) := by decide +kernel
theorem dL_row_3 : decode cL_row 3 = .ok (.iload_n 1, 1) := by decide +kernel
theorem dL_row_4 : decode cL_row 4 = .ok (.invokevirtual 25, 3) := by decide +kernel
theorem dL_row_7 : decode cL_row 7 = .ok (.i2l, 1) := by decide +kernel
theorem dL_row_8 : decode cL_row 8 = .ok (.lastore, 1) := by decide +kernel
theorem dL_row_9 : decode cL_row 9 = .ok (.goto 6, 3) := by decide +kernel
theorem dL_row_12 : decode cL_row 12 = .ok (.astore_n 3, 1) := by decide +kernel
theorem dL_row_13 : decode cL_row 13 = .ok (.iconst 1, 1) := by decide +kernel
theorem dL_row_14 : decode cL_row 14 = .ok (.ireturn, 1) := by decide +kernel
theorem dL_row_15 : decode cL_row 15 = .ok (.iconst 0, 1) := by decide +kernel
theorem dL_row_16 : decode cL_row 16 = .ok (.ireturn, 1) := by decide +kernel
theorem K_law_25 : KV R_law 25 yX11_row cX11_row 2 (some .int) 1 := ⟨Tg_mem 1319 (by decide +kernel) (by decide +kernel), Tg_mem 90 (by decide +kernel) (by decide +kernel), Tg_mem 1316 (by decide +kernel) (by decide +kernel), Tg_mem 1317 (by decide +kernel) (by decide +kernel), Tg_mem 1318 (by decide +kernel) (by decide +kernel), by decide +kernel⟩
set_option maxHeartbeats 4000000 in
theorem hR_row (l : Launch) (E : ENV) (qx qm qo : Nat) (u v : List Nat) (σ : CS) (τ : MS) (lo : Nat → Int64) (p1 : Int32) {o : Int32 × CS} (ho : x_row σ p1 = some o) : CHm l E yL_row cL_row 4 [(0, 9, 12, 13)] [.ref qx, .int p1, .ref qo] (WL E qx qm qo u v σ τ lo) (WL E qx qm qo u v o.2 τ (vp_updL lo 0 o.1.toInt64)) 0 := by
  refine begH (Nat.le_of_ble_eq_true rfl) ?_
  intro p e s m args below meth c A Q ls C hTX htab hA hret hl hP hD hS
  have hx := C.1
  have hb := C.2.1
  have hK := C.2.2.2.2.2.1
  have hl : lv_has ls 4 [(0, .ref qx), (1, .int p1), (2, .ref qo)] := hl
  refine lv_aload_n hx hb dL_row_0 rfl (lv_at hl 2 rfl) ?_
  refine lv_iconst (v := 0) hx hb dL_row_1 (by decide) ?_
  refine lv_aload_n hx hb dL_row_2 rfl (lv_at hl 0 rfl) ?_
  refine lv_iload_n hx hb dL_row_3 rfl (lv_at hl 1 rfl) ?_
  obtain ⟨fx, hrx⟩ := @WL_x E qx qm qo u v σ τ lo
  refine k_G (As := [.int p1]) C K_law_25 ⟨Nat.le_of_ble_eq_true rfl, Nat.le_of_ble_eq_true rfl⟩ (Nat.zero_le _) (Nat.zero_le _) ((X_row l E qx u σ p1 ho).x qm qo v τ lo) (by rw [WL_len, WL_len]) (ci := 11) rfl rfl hrx hP hD hS hA hl.1 (Nat.le_of_ble_eq_true rfl) rfl dL_row_4 (fun H locs hP hD hS => ?_)
  refine lv_i2l (v := o.1.toInt64) hx hb dL_row_7 rfl ?_
  refine va_last hx hb hK hP hD hS 163 5 WL_o rfl (vin_in (by decide)) dL_row_8 (fun H locs hP hD hS => ?_)
  rw [WL_set] at hP hD
  refine lv_goto (tgt := 15) hx hb dL_row_9 (by decide) ?_
  refine lv_iconst (v := 0) hx hb dL_row_15 (by decide) ?_
  refine W.widen (k := 1) (n := 6) (Nat.zero_le _) (Nat.zero_le _) ?_
  exact hret _ _ _ _ dL_row_16 hP hD hS
set_option maxHeartbeats 4000000 in
set_option maxRecDepth 20000 in
theorem hT_row (l : Launch) (hlt : l.stackTraces = false) (HC : CatchP l) (E : ENV) (qx qm qo : Nat) (u v : List Nat) (σ : CS) (τ : MS) (lo : Nat → Int64) (p1 : Int32) (ht : fX11_row_T (σ.1 25) p1 = some ()) : CHm l E yL_row cL_row 4 [(0, 9, 12, 13)] [.ref qx, .int p1, .ref qo] (WL E qx qm qo u v σ τ lo) (WL E qx qm qo u v σ τ lo) 1 := by
  refine begH (Nat.le_of_ble_eq_true rfl) ?_
  intro p e s m args below meth c A Q ls C hTX htab hA hret hl hP hD hS
  have hx := C.1
  have hb := C.2.1
  have hK := C.2.2.2.2.2.1
  have hl : lv_has ls 4 [(0, .ref qx), (1, .int p1), (2, .ref qo)] := hl
  refine lv_aload_n hx hb dL_row_0 rfl (lv_at hl 2 rfl) ?_
  refine lv_iconst (v := 0) hx hb dL_row_1 (by decide) ?_
  refine lv_aload_n hx hb dL_row_2 rfl (lv_at hl 0 rfl) ?_
  refine lv_iload_n hx hb dL_row_3 rfl (lv_at hl 1 rfl) ?_
  obtain ⟨fx, hrx⟩ := @WL_x E qx qm qo u v σ τ lo
  refine k_TX (As := [.int p1]) C K_law_25 hTX ⟨Nat.le_of_ble_eq_true rfl, Nat.le_of_ble_eq_true rfl⟩ (Nat.le_of_ble_eq_true rfl) (Nat.le_of_ble_eq_true rfl) (kX11_row_T l hlt E qx (u.getD 0 0) (u.getD 2 0) (u.getD 6 0) (u.getD 8 0) (u.getD 13 0) (u.getD 17 0) (u.getD 23 0) (u.getD 29 0) (u.getD 35 0) (u.getD 63 0) (u.getD 67 0) (u.getD 117 0) (u.getD 118 0) (u.getD 119 0) (u.getD 122 0) (u.getD 126 0) (u.getD 127 0) (σ.1 25) (σ.2.1 25) p1 ht) [0, 128] rfl rfl rfl (ci := 11) rfl rfl (q0 := 0) rfl hP hD hS hA hl.1 (Nat.le_of_ble_eq_true rfl) rfl dL_row_4 (fun H locs q9 ce hP hD hS hce hcv hcl => ?_)
  refine HC p e _ s m args below meth c H locs _ _ Q _ ls _ ⟨0, 9, 12, 13⟩ ce q9 C.2.2.2.1 htab (by decide) (by decide) (C.2.2.2.2.1 _ (Tg_mem 1226 (by decide +kernel) (by decide +kernel))) hce hcv hcl ?_
  refine lv_astore_n (lv' := _) hx hb dL_row_12 rfl hl (by decide) rfl (fun ls hl => ?_)
  refine lv_iconst (v := 1) hx hb dL_row_13 (by decide) ?_
  exact hret _ _ _ _ dL_row_14 hP hD hS
