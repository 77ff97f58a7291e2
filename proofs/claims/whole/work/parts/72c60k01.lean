theorem q248 : Cond.methodLink RX5 3 Lib.objectInit ∈ Tg := Tg_mem 248 (by decide +kernel) (by decide +kernel)
theorem pff_RX5_9 {p : Program} {l : Launch} {e : Env} {R : Room} {s : State} {m : MethodId} {args : Array Value} {below : List Frame} {meth : Method} {c : Code} {H : Heap} {locs : List Loc} {cells slots : Nat} {Q : State → Prop} {E : ENV} {cc : ByteArray} {n : Nat} {r : Option FieldType} {pc : Nat} {ls : Array Slot} {rest : List Value} {a : Nat} {ws : va_W} {nm ds : String} {fs : List Value} {A : Nat → Prop} {H0 : Heap} {x : Nat} (C : Cx E A ⟨RX5, nm, ds⟩ cc n r p s m args meth c) (hin : meth.name = "<init>") (hP : va_P E.1 classes ws H) (hD : va_D A ws) (hS : va_S A H0 H locs) (q0 : Nat) (he : ws[q0]? = some (a, .inr (5, fs))) (hl : 0 < fs.length) (hdg : decode cc pc = .ok (.putfield 9, 3))
    (kk : ∀ (H1 : Heap) (locs1 : List Loc), va_P E.1 classes (ws.set q0 (a, .inr (5, fs.set 0 (.ref x)))) H1 → va_D A (ws.set q0 (a, .inr (5, fs.set 0 (.ref x)))) → va_S A H0 H1 locs1 → W p l e R s m args below meth c H1 locs1 cells slots Q (F0 m (pc + 3) ls rest)) : W p l e R s m args below meth c H locs cells slots Q (F0 m pc ls (.ref x :: .ref a :: rest)) :=
  va_putF (C := RX5) (T := TX5) (N := 4) (ty := (.array .int)) (Ts := wl ⟨RX5, nm, ds⟩ cc n r) C.1 C.2.1 C.2.2.2.2.1 (fun w h => List.mem_cons_of_mem _ (inT5 w h)) tyX5 tyX5_ok nmX5 C.2.2.2.1 C.2.2.2.2.2.1 hP hD hS q0 he rfl 0 (by decide) (C.2.2.2.2.1 _ (List.mem_cons_of_mem _ q249)) (fun _ h9 => h9) rfl hin rfl (by decide +kernel) rfl rfl hl hdg kk
theorem pff_RX5_15 {p : Program} {l : Launch} {e : Env} {R : Room} {s : State} {m : MethodId} {args : Array Value} {below : List Frame} {meth : Method} {c : Code} {H : Heap} {locs : List Loc} {cells slots : Nat} {Q : State → Prop} {E : ENV} {cc : ByteArray} {n : Nat} {r : Option FieldType} {pc : Nat} {ls : Array Slot} {rest : List Value} {a : Nat} {ws : va_W} {nm ds : String} {fs : List Value} {A : Nat → Prop} {H0 : Heap} {x : Nat} (C : Cx E A ⟨RX5, nm, ds⟩ cc n r p s m args meth c) (hin : meth.name = "<init>") (hP : va_P E.1 classes ws H) (hD : va_D A ws) (hS : va_S A H0 H locs) (q0 : Nat) (he : ws[q0]? = some (a, .inr (5, fs))) (hl : 1 < fs.length) (hdg : decode cc pc = .ok (.putfield 15, 3))
    (kk : ∀ (H1 : Heap) (locs1 : List Loc), va_P E.1 classes (ws.set q0 (a, .inr (5, fs.set 1 (.ref x)))) H1 → va_D A (ws.set q0 (a, .inr (5, fs.set 1 (.ref x)))) → va_S A H0 H1 locs1 → W p l e R s m args below meth c H1 locs1 cells slots Q (F0 m (pc + 3) ls rest)) : W p l e R s m args below meth c H locs cells slots Q (F0 m pc ls (.ref x :: .ref a :: rest)) :=
  va_putF (C := RX5) (T := TX5) (N := 4) (ty := (.array .int)) (Ts := wl ⟨RX5, nm, ds⟩ cc n r) C.1 C.2.1 C.2.2.2.2.1 (fun w h => List.mem_cons_of_mem _ (inT5 w h)) tyX5 tyX5_ok nmX5 C.2.2.2.1 C.2.2.2.2.2.1 hP hD hS q0 he rfl 1 (by decide) (C.2.2.2.2.1 _ (List.mem_cons_of_mem _ q253)) (fun _ h9 => h9) rfl hin rfl (by decide +kernel) rfl rfl hl hdg kk
theorem pff_RX5_18 {p : Program} {l : Launch} {e : Env} {R : Room} {s : State} {m : MethodId} {args : Array Value} {below : List Frame} {meth : Method} {c : Code} {H : Heap} {locs : List Loc} {cells slots : Nat} {Q : State → Prop} {E : ENV} {cc : ByteArray} {n : Nat} {r : Option FieldType} {pc : Nat} {ls : Array Slot} {rest : List Value} {a : Nat} {ws : va_W} {nm ds : String} {fs : List Value} {A : Nat → Prop} {H0 : Heap} {x : Nat} (C : Cx E A ⟨RX5, nm, ds⟩ cc n r p s m args meth c) (hin : meth.name = "<init>") (hP : va_P E.1 classes ws H) (hD : va_D A ws) (hS : va_S A H0 H locs) (q0 : Nat) (he : ws[q0]? = some (a, .inr (5, fs))) (hl : 2 < fs.length) (hdg : decode cc pc = .ok (.putfield 18, 3))
    (kk : ∀ (H1 : Heap) (locs1 : List Loc), va_P E.1 classes (ws.set q0 (a, .inr (5, fs.set 2 (.ref x)))) H1 → va_D A (ws.set q0 (a, .inr (5, fs.set 2 (.ref x)))) → va_S A H0 H1 locs1 → W p l e R s m args below meth c H1 locs1 cells slots Q (F0 m (pc + 3) ls rest)) : W p l e R s m args below meth c H locs cells slots Q (F0 m pc ls (.ref x :: .ref a :: rest)) :=
  va_putF (C := RX5) (T := TX5) (N := 4) (ty := (.array .int)) (Ts := wl ⟨RX5, nm, ds⟩ cc n r) C.1 C.2.1 C.2.2.2.2.1 (fun w h => List.mem_cons_of_mem _ (inT5 w h)) tyX5 tyX5_ok nmX5 C.2.2.2.1 C.2.2.2.2.2.1 hP hD hS q0 he rfl 2 (by decide) (C.2.2.2.2.1 _ (List.mem_cons_of_mem _ q256)) (fun _ h9 => h9) rfl hin rfl (by decide +kernel) rfl rfl hl hdg kk
theorem dX5_init_0 : decode cX5_init 0 = .ok (.aload_n 0, 1) := by decide +kernel
theorem dX5_init_1 : decode cX5_init 1 = .ok (.invokespecial 3, 3) := by decide +kernel
theorem dX5_init_4 : decode cX5_init 4 = .ok (.aload_n 0, 1) := by decide +kernel
theorem dX5_init_5 : decode cX5_init 5 = .ok (.bipush 14, 2) := by decide +kernel
theorem dX5_init_7 : decode cX5_init 7 = .ok (.newarray .int, 2) := by decide +kernel
theorem dX5_init_9 : decode cX5_init 9 = .ok (.putfield 9, 3) := by decide +kernel
theorem dX5_init_12 : decode cX5_init 12 = .ok (.aload_n 0, 1) := by decide +kernel
theorem dX5_init_13 : decode cX5_init 13 = .ok (.bipush 7, 2) := by decide +kernel
theorem dX5_init_15 : decode cX5_init 15 = .ok (.newarray .int, 2) := by decide +kernel
theorem dX5_init_17 : decode cX5_init 17 = .ok (.putfield 15, 3) := by decide +kernel
theorem dX5_init_20 : decode cX5_init 20 = .ok (.aload_n 0, 1) := by decide +kernel
theorem dX5_init_21 : decode cX5_init 21 = .ok (.bipush 49, 2) := by decide +kernel
theorem dX5_init_23 : decode cX5_init 23 = .ok (.newarray .int, 2) := by decide +kernel
theorem dX5_init_25 : decode cX5_init 25 = .ok (.putfield 18, 3) := by decide +kernel
theorem dX5_init_28 : decode cX5_init 28 = .ok (.return_, 1) := by decide +kernel
def ZX5_init (E : ENV) (q0 : Nat) (u : List Nat) : va_W := [(q0, .inr (5, [.ref (u.getD 0 0), .ref (u.getD 1 0), .ref (u.getD 2 0), .int 0])), ((u.getD 0 0), .inl (E.2.1, 14, .inl (fun _ => 0))), ((u.getD 1 0), .inl (E.2.1, 7, .inl (fun _ => 0))), ((u.getD 2 0), .inl (E.2.1, 49, .inl (fun _ => 0)))]
set_option maxHeartbeats 4000000 in
set_option maxRecDepth 20000 in
theorem kX5_init (l : Launch) (E : ENV) (q0 : Nat) : CN l E yX5_init cX5_init 1 1 3 70 [.ref q0] [(q0, .inr (5, [.null, .null, .null, .int 0]))] (ZX5_init E q0) := by
  refine begN (by decide +kernel) rfl (Nat.le_of_ble_eq_true rfl) ?_
  intro p e s m args below meth c A Q ls C hAO hin hA hret hl hP hD hS
  have hx := C.1
  have hb := C.2.1
  have htg : ∀ w ∈ Tg, w.before args s = true := fun w h => C.2.2.2.2.1 w (List.mem_cons_of_mem _ h)
  have hl : lv_has ls 1 [(0, .ref q0)] := hl
  refine lv_aload_n hx hb dX5_init_0 rfl (lv_at hl 0 rfl) ?_
  refine n_obj C q248 hl.1 (Nat.le_of_ble_eq_true rfl) (Nat.le_of_ble_eq_true rfl) dX5_init_1 ?_
  refine lv_aload_n hx hb dX5_init_4 rfl (lv_at hl 0 rfl) ?_
  refine lv_bipush (v := 14) hx hb dX5_init_5 (by decide) ?_
  refine n_newi C hP hD hS hA (by decide) (N := 14) (by decide) (Nat.le_of_ble_eq_true rfl) (Nat.le_of_ble_eq_true rfl) (Nat.le_of_ble_eq_true rfl) dX5_init_7 (fun q_1 H hP hD hS => ?_)
  have hP : va_P E.1 classes [(q0, .inr (5, [.null, .null, .null, .int 0])), (q_1, .inl (E.2.1, 14, .inl (fun _ => 0)))] H := hP
  have hD : va_D A [(q0, .inr (5, [.null, .null, .null, .int 0])), (q_1, .inl (E.2.1, 14, .inl (fun _ => 0)))] := hD
  refine pff_RX5_9 C hin hP hD hS 0 rfl (Nat.le_of_ble_eq_true rfl) dX5_init_9 (fun H locs hP hD hS => ?_)
  have hP : va_P E.1 classes [(q0, .inr (5, [.ref q_1, .null, .null, .int 0])), (q_1, .inl (E.2.1, 14, .inl (fun _ => 0)))] H := hP
  have hD : va_D A [(q0, .inr (5, [.ref q_1, .null, .null, .int 0])), (q_1, .inl (E.2.1, 14, .inl (fun _ => 0)))] := hD
  refine lv_aload_n hx hb dX5_init_12 rfl (lv_at hl 0 rfl) ?_
  refine lv_bipush (v := 7) hx hb dX5_init_13 (by decide) ?_
  refine n_newi C hP hD hS hA (by decide) (N := 7) (by decide) (Nat.le_of_ble_eq_true rfl) (Nat.le_of_ble_eq_true rfl) (Nat.le_of_ble_eq_true rfl) dX5_init_15 (fun q_2 H hP hD hS => ?_)
  have hP : va_P E.1 classes [(q0, .inr (5, [.ref q_1, .null, .null, .int 0])), (q_1, .inl (E.2.1, 14, .inl (fun _ => 0))), (q_2, .inl (E.2.1, 7, .inl (fun _ => 0)))] H := hP
  have hD : va_D A [(q0, .inr (5, [.ref q_1, .null, .null, .int 0])), (q_1, .inl (E.2.1, 14, .inl (fun _ => 0))), (q_2, .inl (E.2.1, 7, .inl (fun _ => 0)))] := hD
  refine pff_RX5_15 C hin hP hD hS 0 rfl (Nat.le_of_ble_eq_true rfl) dX5_init_17 (fun H locs hP hD hS => ?_)
  have hP : va_P E.1 classes [(q0, .inr (5, [.ref q_1, .ref q_2, .null, .int 0])), (q_1, .inl (E.2.1, 14, .inl (fun _ => 0))), (q_2, .inl (E.2.1, 7, .inl (fun _ => 0)))] H := hP
  have hD : va_D A [(q0, .inr (5, [.ref q_1, .ref q_2, .null, .int 0])), (q_1, .inl (E.2.1, 14, .inl (fun _ => 0))), (q_2, .inl (E.2.1, 7, .inl (fun _ => 0)))] := hD
  refine lv_aload_n hx hb dX5_init_20 rfl (lv_at hl 0 rfl) ?_
  refine lv_bipush (v := 49) hx hb dX5_init_21 (by decide) ?_
  refine n_newi C hP hD hS hA (by decide) (N := 49) (by decide) (Nat.le_of_ble_eq_true rfl) (Nat.le_of_ble_eq_true rfl) (Nat.le_of_ble_eq_true rfl) dX5_init_23 (fun q_3 H hP hD hS => ?_)
  have hP : va_P E.1 classes [(q0, .inr (5, [.ref q_1, .ref q_2, .null, .int 0])), (q_1, .inl (E.2.1, 14, .inl (fun _ => 0))), (q_2, .inl (E.2.1, 7, .inl (fun _ => 0))), (q_3, .inl (E.2.1, 49, .inl (fun _ => 0)))] H := hP
  have hD : va_D A [(q0, .inr (5, [.ref q_1, .ref q_2, .null, .int 0])), (q_1, .inl (E.2.1, 14, .inl (fun _ => 0))), (q_2, .inl (E.2.1, 7, .inl (fun _ => 0))), (q_3, .inl (E.2.1, 49, .inl (fun _ => 0)))] := hD
  refine pff_RX5_18 C hin hP hD hS 0 rfl (Nat.le_of_ble_eq_true rfl) dX5_init_25 (fun H locs hP hD hS => ?_)
  have hP : va_P E.1 classes [(q0, .inr (5, [.ref q_1, .ref q_2, .ref q_3, .int 0])), (q_1, .inl (E.2.1, 14, .inl (fun _ => 0))), (q_2, .inl (E.2.1, 7, .inl (fun _ => 0))), (q_3, .inl (E.2.1, 49, .inl (fun _ => 0)))] H := hP
  have hD : va_D A [(q0, .inr (5, [.ref q_1, .ref q_2, .ref q_3, .int 0])), (q_1, .inl (E.2.1, 14, .inl (fun _ => 0))), (q_2, .inl (E.2.1, 7, .inl (fun _ => 0))), (q_3, .inl (E.2.1, 49, .inl (fun _ => 0)))] := hD
  exact hret _ _ _ _ [q_1, q_2, q_3] dX5_init_28 hP hD hS
theorem q129 : Cond.methodLink RX6 3 Lib.objectInit ∈ Tg := Tg_mem 129 (by decide +kernel) (by decide +kernel)
theorem pff_RX6_11 {p : Program} {l : Launch} {e : Env} {R : Room} {s : State} {m : MethodId} {args : Array Value} {below : List Frame} {meth : Method} {c : Code} {H : Heap} {locs : List Loc} {cells slots : Nat} {Q : State → Prop} {E : ENV} {cc : ByteArray} {n : Nat} {r : Option FieldType} {pc : Nat} {ls : Array Slot} {rest : List Value} {a : Nat} {ws : va_W} {nm ds : String} {fs : List Value} {A : Nat → Prop} {H0 : Heap} {x : Nat} (C : Cx E A ⟨RX6, nm, ds⟩ cc n r p s m args meth c) (hin : meth.name = "<init>") (hP : va_P E.1 classes ws H) (hD : va_D A ws) (hS : va_S A H0 H locs) (q0 : Nat) (he : ws[q0]? = some (a, .inr (6, fs))) (hl : 0 < fs.length) (hdg : decode cc pc = .ok (.putfield 11, 3))
    (kk : ∀ (H1 : Heap) (locs1 : List Loc), va_P E.1 classes (ws.set q0 (a, .inr (6, fs.set 0 (.ref x)))) H1 → va_D A (ws.set q0 (a, .inr (6, fs.set 0 (.ref x)))) → va_S A H0 H1 locs1 → W p l e R s m args below meth c H1 locs1 cells slots Q (F0 m (pc + 3) ls rest)) : W p l e R s m args below meth c H locs cells slots Q (F0 m pc ls (.ref x :: .ref a :: rest)) :=
  va_putF (C := RX6) (T := TX6) (N := 4) (ty := (.array .int)) (Ts := wl ⟨RX6, nm, ds⟩ cc n r) C.1 C.2.1 C.2.2.2.2.1 (fun w h => List.mem_cons_of_mem _ (inT6 w h)) tyX6 tyX6_ok nmX6 C.2.2.2.1 C.2.2.2.2.2.1 hP hD hS q0 he rfl 0 (by decide) (C.2.2.2.2.1 _ (List.mem_cons_of_mem _ q130)) (fun _ h9 => h9) rfl hin rfl (by decide +kernel) rfl rfl hl hdg kk
theorem dX6_init_0 : decode cX6_init 0 = .ok (.aload_n 0, 1) := by decide +kernel
theorem dX6_init_1 : decode cX6_init 1 = .ok (.invokespecial 3, 3) := by decide +kernel
theorem dX6_init_4 : decode cX6_init 4 = .ok (.aload_n 0, 1) := by decide +kernel
theorem dX6_init_5 : decode cX6_init 5 = .ok (.bipush 80, 2) := by decide +kernel
theorem dX6_init_7 : decode cX6_init 7 = .ok (.newarray .int, 2) := by decide +kernel
theorem dX6_init_9 : decode cX6_init 9 = .ok (.putfield 11, 3) := by decide +kernel
theorem dX6_init_12 : decode cX6_init 12 = .ok (.return_, 1) := by decide +kernel
def ZX6_init (E : ENV) (q0 : Nat) (u : List Nat) : va_W := [(q0, .inr (6, [.ref (u.getD 0 0), .int 0, .int 0, .int 0])), ((u.getD 0 0), .inl (E.2.1, 80, .inl (fun _ => 0)))]
set_option maxHeartbeats 4000000 in
set_option maxRecDepth 20000 in
theorem kX6_init (l : Launch) (E : ENV) (q0 : Nat) : CN l E yX6_init cX6_init 1 1 1 80 [.ref q0] [(q0, .inr (6, [.null, .int 0, .int 0, .int 0]))] (ZX6_init E q0) := by
  refine begN (by decide +kernel) rfl (Nat.le_of_ble_eq_true rfl) ?_
  intro p e s m args below meth c A Q ls C hAO hin hA hret hl hP hD hS
  have hx := C.1
  have hb := C.2.1
  have htg : ∀ w ∈ Tg, w.before args s = true := fun w h => C.2.2.2.2.1 w (List.mem_cons_of_mem _ h)
  have hl : lv_has ls 1 [(0, .ref q0)] := hl
  refine lv_aload_n hx hb dX6_init_0 rfl (lv_at hl 0 rfl) ?_
  refine n_obj C q129 hl.1 (Nat.le_of_ble_eq_true rfl) (Nat.le_of_ble_eq_true rfl) dX6_init_1 ?_
  refine lv_aload_n hx hb dX6_init_4 rfl (lv_at hl 0 rfl) ?_
  refine lv_bipush (v := 80) hx hb dX6_init_5 (by decide) ?_
  refine n_newi C hP hD hS hA (by decide) (N := 80) (by decide) (Nat.le_of_ble_eq_true rfl) (Nat.le_of_ble_eq_true rfl) (Nat.le_of_ble_eq_true rfl) dX6_init_7 (fun q_1 H hP hD hS => ?_)
  have hP : va_P E.1 classes [(q0, .inr (6, [.null, .int 0, .int 0, .int 0])), (q_1, .inl (E.2.1, 80, .inl (fun _ => 0)))] H := hP
  have hD : va_D A [(q0, .inr (6, [.null, .int 0, .int 0, .int 0])), (q_1, .inl (E.2.1, 80, .inl (fun _ => 0)))] := hD
  refine pff_RX6_11 C hin hP hD hS 0 rfl (Nat.le_of_ble_eq_true rfl) dX6_init_9 (fun H locs hP hD hS => ?_)
  have hP : va_P E.1 classes [(q0, .inr (6, [.ref q_1, .int 0, .int 0, .int 0])), (q_1, .inl (E.2.1, 80, .inl (fun _ => 0)))] H := hP
  have hD : va_D A [(q0, .inr (6, [.ref q_1, .int 0, .int 0, .int 0])), (q_1, .inl (E.2.1, 80, .inl (fun _ => 0)))] := hD
  exact hret _ _ _ _ [q_1] dX6_init_12 hP hD hS
theorem q150 : Cond.methodLink RX7 3 Lib.objectInit ∈ Tg := Tg_mem 150 (by decide +kernel) (by decide +kernel)
theorem pff_RX7_9 {p : Program} {l : Launch} {e : Env} {R : Room} {s : State} {m : MethodId} {args : Array Value} {below : List Frame} {meth : Method} {c : Code} {H : Heap} {locs : List Loc} {cells slots : Nat} {Q : State → Prop} {E : ENV} {cc : ByteArray} {n : Nat} {r : Option FieldType} {pc : Nat} {ls : Array Slot} {rest : List Value} {a : Nat} {ws : va_W} {nm ds : String} {fs : List Value} {A : Nat → Prop} {H0 : Heap} {x : Nat} (C : Cx E A ⟨RX7, nm, ds⟩ cc n r p s m args meth c) (hin : meth.name = "<init>") (hP : va_P E.1 classes ws H) (hD : va_D A ws) (hS : va_S A H0 H locs) (q0 : Nat) (he : ws[q0]? = some (a, .inr (7, fs))) (hl : 0 < fs.length) (hdg : decode cc pc = .ok (.putfield 9, 3))
    (kk : ∀ (H1 : Heap) (locs1 : List Loc), va_P E.1 classes (ws.set q0 (a, .inr (7, fs.set 0 (.ref x)))) H1 → va_D A (ws.set q0 (a, .inr (7, fs.set 0 (.ref x)))) → va_S A H0 H1 locs1 → W p l e R s m args below meth c H1 locs1 cells slots Q (F0 m (pc + 3) ls rest)) : W p l e R s m args below meth c H locs cells slots Q (F0 m pc ls (.ref x :: .ref a :: rest)) :=
  va_putF (C := RX7) (T := TX7) (N := 4) (ty := (.array .int)) (Ts := wl ⟨RX7, nm, ds⟩ cc n r) C.1 C.2.1 C.2.2.2.2.1 (fun w h => List.mem_cons_of_mem _ (inT7 w h)) tyX7 tyX7_ok nmX7 C.2.2.2.1 C.2.2.2.2.2.1 hP hD hS q0 he rfl 0 (by decide) (C.2.2.2.2.1 _ (List.mem_cons_of_mem _ q151)) (fun _ h9 => h9) rfl hin rfl (by decide +kernel) rfl rfl hl hdg kk
theorem pff_RX7_15 {p : Program} {l : Launch} {e : Env} {R : Room} {s : State} {m : MethodId} {args : Array Value} {below : List Frame} {meth : Method} {c : Code} {H : Heap} {locs : List Loc} {cells slots : Nat} {Q : State → Prop} {E : ENV} {cc : ByteArray} {n : Nat} {r : Option FieldType} {pc : Nat} {ls : Array Slot} {rest : List Value} {a : Nat} {ws : va_W} {nm ds : String} {fs : List Value} {A : Nat → Prop} {H0 : Heap} {x : Nat} (C : Cx E A ⟨RX7, nm, ds⟩ cc n r p s m args meth c) (hin : meth.name = "<init>") (hP : va_P E.1 classes ws H) (hD : va_D A ws) (hS : va_S A H0 H locs) (q0 : Nat) (he : ws[q0]? = some (a, .inr (7, fs))) (hl : 1 < fs.length) (hdg : decode cc pc = .ok (.putfield 15, 3))
    (kk : ∀ (H1 : Heap) (locs1 : List Loc), va_P E.1 classes (ws.set q0 (a, .inr (7, fs.set 1 (.ref x)))) H1 → va_D A (ws.set q0 (a, .inr (7, fs.set 1 (.ref x)))) → va_S A H0 H1 locs1 → W p l e R s m args below meth c H1 locs1 cells slots Q (F0 m (pc + 3) ls rest)) : W p l e R s m args below meth c H locs cells slots Q (F0 m pc ls (.ref x :: .ref a :: rest)) :=
  va_putF (C := RX7) (T := TX7) (N := 4) (ty := (.array .int)) (Ts := wl ⟨RX7, nm, ds⟩ cc n r) C.1 C.2.1 C.2.2.2.2.1 (fun w h => List.mem_cons_of_mem _ (inT7 w h)) tyX7 tyX7_ok nmX7 C.2.2.2.1 C.2.2.2.2.2.1 hP hD hS q0 he rfl 1 (by decide) (C.2.2.2.2.1 _ (List.mem_cons_of_mem _ q154)) (fun _ h9 => h9) rfl hin rfl (by decide +kernel) rfl rfl hl hdg kk
theorem pff_RX7_18 {p : Program} {l : Launch} {e : Env} {R : Room} {s : State} {m : MethodId} {args : Array Value} {below : List Frame} {meth : Method} {c : Code} {H : Heap} {locs : List Loc} {cells slots : Nat} {Q : State → Prop} {E : ENV} {cc : ByteArray} {n : Nat} {r : Option FieldType} {pc : Nat} {ls : Array Slot} {rest : List Value} {a : Nat} {ws : va_W} {nm ds : String} {fs : List Value} {A : Nat → Prop} {H0 : Heap} {x : Nat} (C : Cx E A ⟨RX7, nm, ds⟩ cc n r p s m args meth c) (hin : meth.name = "<init>") (hP : va_P E.1 classes ws H) (hD : va_D A ws) (hS : va_S A H0 H locs) (q0 : Nat) (he : ws[q0]? = some (a, .inr (7, fs))) (hl : 2 < fs.length) (hdg : decode cc pc = .ok (.putfield 18, 3))
    (kk : ∀ (H1 : Heap) (locs1 : List Loc), va_P E.1 classes (ws.set q0 (a, .inr (7, fs.set 2 (.ref x)))) H1 → va_D A (ws.set q0 (a, .inr (7, fs.set 2 (.ref x)))) → va_S A H0 H1 locs1 → W p l e R s m args below meth c H1 locs1 cells slots Q (F0 m (pc + 3) ls rest)) : W p l e R s m args below meth c H locs cells slots Q (F0 m pc ls (.ref x :: .ref a :: rest)) :=
  va_putF (C := RX7) (T := TX7) (N := 4) (ty := (.array .int)) (Ts := wl ⟨RX7, nm, ds⟩ cc n r) C.1 C.2.1 C.2.2.2.2.1 (fun w h => List.mem_cons_of_mem _ (inT7 w h)) tyX7 tyX7_ok nmX7 C.2.2.2.1 C.2.2.2.2.2.1 hP hD hS q0 he rfl 2 (by decide) (C.2.2.2.2.1 _ (List.mem_cons_of_mem _ q157)) (fun _ h9 => h9) rfl hin rfl (by decide +kernel) rfl rfl hl hdg kk
theorem dX7_init_0 : decode cX7_init 0 = .ok (.aload_n 0, 1) := by decide +kernel
theorem dX7_init_1 : decode cX7_init 1 = .ok (.invokespecial 3, 3) := by decide +kernel
theorem dX7_init_4 : decode cX7_init 4 = .ok (.aload_n 0, 1) := by decide +kernel
theorem dX7_init_5 : decode cX7_init 5 = .ok (.bipush 7, 2) := by decide +kernel
theorem dX7_init_7 : decode cX7_init 7 = .ok (.newarray .int, 2) := by decide +kernel
theorem dX7_init_9 : decode cX7_init 9 = .ok (.putfield 9, 3) := by decide +kernel
theorem dX7_init_12 : decode cX7_init 12 = .ok (.aload_n 0, 1) := by decide +kernel
theorem dX7_init_13 : decode cX7_init 13 = .ok (.bipush 14, 2) := by decide +kernel
theorem dX7_init_15 : decode cX7_init 15 = .ok (.newarray .int, 2) := by decide +kernel
theorem dX7_init_17 : decode cX7_init 17 = .ok (.putfield 15, 3) := by decide +kernel
theorem dX7_init_20 : decode cX7_init 20 = .ok (.aload_n 0, 1) := by decide +kernel
theorem dX7_init_21 : decode cX7_init 21 = .ok (.bipush 7, 2) := by decide +kernel
theorem dX7_init_23 : decode cX7_init 23 = .ok (.newarray .int, 2) := by decide +kernel
theorem dX7_init_25 : decode cX7_init 25 = .ok (.putfield 18, 3) := by decide +kernel
theorem dX7_init_28 : decode cX7_init 28 = .ok (.return_, 1) := by decide +kernel
def ZX7_init (E : ENV) (q0 : Nat) (u : List Nat) : va_W := [(q0, .inr (7, [.ref (u.getD 0 0), .ref (u.getD 1 0), .ref (u.getD 2 0), .int 0])), ((u.getD 0 0), .inl (E.2.1, 7, .inl (fun _ => 0))), ((u.getD 1 0), .inl (E.2.1, 14, .inl (fun _ => 0))), ((u.getD 2 0), .inl (E.2.1, 7, .inl (fun _ => 0)))]
set_option maxHeartbeats 4000000 in
set_option maxRecDepth 20000 in
theorem kX7_init (l : Launch) (E : ENV) (q0 : Nat) : CN l E yX7_init cX7_init 1 1 3 28 [.ref q0] [(q0, .inr (7, [.null, .null, .null, .int 0]))] (ZX7_init E q0) := by
  refine begN (by decide +kernel) rfl (Nat.le_of_ble_eq_true rfl) ?_
  intro p e s m args below meth c A Q ls C hAO hin hA hret hl hP hD hS
  have hx := C.1
  have hb := C.2.1
  have htg : ∀ w ∈ Tg, w.before args s = true := fun w h => C.2.2.2.2.1 w (List.mem_cons_of_mem _ h)
  have hl : lv_has ls 1 [(0, .ref q0)] := hl
  refine lv_aload_n hx hb dX7_init_0 rfl (lv_at hl 0 rfl) ?_
  refine n_obj C q150 hl.1 (Nat.le_of_ble_eq_true rfl) (Nat.le_of_ble_eq_true rfl) dX7_init_1 ?_
  refine lv_aload_n hx hb dX7_init_4 rfl (lv_at hl 0 rfl) ?_
  refine lv_bipush (v := 7) hx hb dX7_init_5 (by decide) ?_
  refine n_newi C hP hD hS hA (by decide) (N := 7) (by decide) (Nat.le_of_ble_eq_true rfl) (Nat.le_of_ble_eq_true rfl) (Nat.le_of_ble_eq_true rfl) dX7_init_7 (fun q_1 H hP hD hS => ?_)
  have hP : va_P E.1 classes [(q0, .inr (7, [.null, .null, .null, .int 0])), (q_1, .inl (E.2.1, 7, .inl (fun _ => 0)))] H := hP
  have hD : va_D A [(q0, .inr (7, [.null, .null, .null, .int 0])), (q_1, .inl (E.2.1, 7, .inl (fun _ => 0)))] := hD
  refine pff_RX7_9 C hin hP hD hS 0 rfl (Nat.le_of_ble_eq_true rfl) dX7_init_9 (fun H locs hP hD hS => ?_)
  have hP : va_P E.1 classes [(q0, .inr (7, [.ref q_1, .null, .null, .int 0])), (q_1, .inl (E.2.1, 7, .inl (fun _ => 0)))] H := hP
  have hD : va_D A [(q0, .inr (7, [.ref q_1, .null, .null, .int 0])), (q_1, .inl (E.2.1, 7, .inl (fun _ => 0)))] := hD
  refine lv_aload_n hx hb dX7_init_12 rfl (lv_at hl 0 rfl) ?_
  refine lv_bipush (v := 14) hx hb dX7_init_13 (by decide) ?_
  refine n_newi C hP hD hS hA (by decide) (N := 14) (by decide) (Nat.le_of_ble_eq_true rfl) (Nat.le_of_ble_eq_true rfl) (Nat.le_of_ble_eq_true rfl) dX7_init_15 (fun q_2 H hP hD hS => ?_)
  have hP : va_P E.1 classes [(q0, .inr (7, [.ref q_1, .null, .null, .int 0])), (q_1, .inl (E.2.1, 7, .inl (fun _ => 0))), (q_2, .inl (E.2.1, 14, .inl (fun _ => 0)))] H := hP
  have hD : va_D A [(q0, .inr (7, [.ref q_1, .null, .null, .int 0])), (q_1, .inl (E.2.1, 7, .inl (fun _ => 0))), (q_2, .inl (E.2.1, 14, .inl (fun _ => 0)))] := hD
  refine pff_RX7_15 C hin hP hD hS 0 rfl (Nat.le_of_ble_eq_true rfl) dX7_init_17 (fun H locs hP hD hS => ?_)
  have hP : va_P E.1 classes [(q0, .inr (7, [.ref q_1, .ref q_2, .null, .int 0])), (q_1, .inl (E.2.1, 7, .inl (fun _ => 0))), (q_2, .inl (E.2.1, 14, .inl (fun _ => 0)))] H := hP
  have hD : va_D A [(q0, .inr (7, [.ref q_1, .ref q_2, .null, .int 0])), (q_1, .inl (E.2.1, 7, .inl (fun _ => 0))), (q_2, .inl (E.2.1, 14, .inl (fun _ => 0)))] := hD
  refine lv_aload_n hx hb dX7_init_20 rfl (lv_at hl 0 rfl) ?_
  refine lv_bipush (v := 7) hx hb dX7_init_21 (by decide) ?_
  refine n_newi C hP hD hS hA (by decide) (N := 7) (by decide) (Nat.le_of_ble_eq_true rfl) (Nat.le_of_ble_eq_true rfl) (Nat.le_of_ble_eq_true rfl) dX7_init_23 (fun q_3 H hP hD hS => ?_)
  have hP : va_P E.1 classes [(q0, .inr (7, [.ref q_1, .ref q_2, .null, .int 0])), (q_1, .inl (E.2.1, 7, .inl (fun _ => 0))), (q_2, .inl (E.2.1, 14, .inl (fun _ => 0))), (q_3, .inl (E.2.1, 7, .inl (fun _ => 0)))] H := hP
  have hD : va_D A [(q0, .inr (7, [.ref q_1, .ref q_2, .null, .int 0])), (q_1, .inl (E.2.1, 7, .inl (fun _ => 0))), (q_2, .inl (E.2.1, 14, .inl (fun _ => 0))), (q_3, .inl (E.2.1, 7, .inl (fun _ => 0)))] := hD
  refine pff_RX7_18 C hin hP hD hS 0 rfl (Nat.le_of_ble_eq_true rfl) dX7_init_25 (fun H locs hP hD hS => ?_)
  have hP : va_P E.1 classes [(q0, .inr (7, [.ref q_1, .ref q_2, .ref q_3, .int 0])), (q_1, .inl (E.2.1, 7, .inl (fun _ => 0))), (q_2, .inl (E.2.1, 14, .inl (fun _ => 0))), (q_3, .inl (E.2.1, 7, .inl (fun _ => 0)))] H := hP
  have hD : va_D A [(q0, .inr (7, [.ref q_1, .ref q_2, .ref q_3, .int 0])), (q_1, .inl (E.2.1, 7, .inl (fun _ => 0))), (q_2, .inl (E.2.1, 14, .inl (fun _ => 0))), (q_3, .inl (E.2.1, 7, .inl (fun _ => 0)))] := hD
  exact hret _ _ _ _ [q_1, q_2, q_3] dX7_init_28 hP hD hS
theorem q176 : Cond.methodLink RX10 1 Lib.objectInit ∈ Tg := Tg_mem 176 (by decide +kernel) (by decide +kernel)
theorem pff_RX10_9 {p : Program} {l : Launch} {e : Env} {R : Room} {s : State} {m : MethodId} {args : Array Value} {below : List Frame} {meth : Method} {c : Code} {H : Heap} {locs : List Loc} {cells slots : Nat} {Q : State → Prop} {E : ENV} {cc : ByteArray} {n : Nat} {r : Option FieldType} {pc : Nat} {ls : Array Slot} {rest : List Value} {a : Nat} {ws : va_W} {nm ds : String} {fs : List Value} {A : Nat → Prop} {H0 : Heap} {x : Nat} (C : Cx E A ⟨RX10, nm, ds⟩ cc n r p s m args meth c) (hin : meth.name = "<init>") (hP : va_P E.1 classes ws H) (hD : va_D A ws) (hS : va_S A H0 H locs) (q0 : Nat) (he : ws[q0]? = some (a, .inr (10, fs))) (hl : 0 < fs.length) (hdg : decode cc pc = .ok (.putfield 9, 3))
    (kk : ∀ (H1 : Heap) (locs1 : List Loc), va_P E.1 classes (ws.set q0 (a, .inr (10, fs.set 0 (.ref x)))) H1 → va_D A (ws.set q0 (a, .inr (10, fs.set 0 (.ref x)))) → va_S A H0 H1 locs1 → W p l e R s m args below meth c H1 locs1 cells slots Q (F0 m (pc + 3) ls rest)) : W p l e R s m args below meth c H locs cells slots Q (F0 m pc ls (.ref x :: .ref a :: rest)) :=
  va_putF (C := RX10) (T := TX10) (N := 3) (ty := (.array .int)) (Ts := wl ⟨RX10, nm, ds⟩ cc n r) C.1 C.2.1 C.2.2.2.2.1 (fun w h => List.mem_cons_of_mem _ (inT10 w h)) tyX10 tyX10_ok nmX10 C.2.2.2.1 C.2.2.2.2.2.1 hP hD hS q0 he rfl 0 (by decide) (C.2.2.2.2.1 _ (List.mem_cons_of_mem _ q177)) (fun _ h9 => h9) rfl hin rfl (by decide +kernel) rfl rfl hl hdg kk
theorem dX10_init_0 : decode cX10_init 0 = .ok (.aload_n 0, 1) := by decide +kernel
theorem dX10_init_1 : decode cX10_init 1 = .ok (.invokespecial 1, 3) := by decide +kernel
theorem dX10_init_4 : decode cX10_init 4 = .ok (.aload_n 0, 1) := by decide +kernel
theorem dX10_init_5 : decode cX10_init 5 = .ok (.bipush 40, 2) := by decide +kernel
theorem dX10_init_7 : decode cX10_init 7 = .ok (.newarray .int, 2) := by decide +kernel
theorem dX10_init_9 : decode cX10_init 9 = .ok (.putfield 9, 3) := by decide +kernel
theorem dX10_init_12 : decode cX10_init 12 = .ok (.aload_n 0, 1) := by decide +kernel
theorem dX10_init_13 : decode cX10_init 13 = .ok (.iconst 1, 1) := by decide +kernel
theorem dX10_init_14 : decode cX10_init 14 = .ok (.putfield 13, 3) := by decide +kernel
theorem dX10_init_17 : decode cX10_init 17 = .ok (.return_, 1) := by decide +kernel
def ZX10_init (E : ENV) (q0 : Nat) (u : List Nat) : va_W := [(q0, .inr (10, [.ref (u.getD 0 0), .int 0, .int 1])), ((u.getD 0 0), .inl (E.2.1, 40, .inl (fun _ => 0)))]
set_option maxHeartbeats 4000000 in
set_option maxRecDepth 20000 in
theorem kX10_init (l : Launch) (E : ENV) (q0 : Nat) : CN l E yX10_init cX10_init 1 1 1 40 [.ref q0] [(q0, .inr (10, [.null, .int 0, .int 0]))] (ZX10_init E q0) := by
  refine begN (by decide +kernel) rfl (Nat.le_of_ble_eq_true rfl) ?_
  intro p e s m args below meth c A Q ls C hAO hin hA hret hl hP hD hS
  have hx := C.1
  have hb := C.2.1
  have htg : ∀ w ∈ Tg, w.before args s = true := fun w h => C.2.2.2.2.1 w (List.mem_cons_of_mem _ h)
  have hl : lv_has ls 1 [(0, .ref q0)] := hl
  refine lv_aload_n hx hb dX10_init_0 rfl (lv_at hl 0 rfl) ?_
  refine n_obj C q176 hl.1 (Nat.le_of_ble_eq_true rfl) (Nat.le_of_ble_eq_true rfl) dX10_init_1 ?_
  refine lv_aload_n hx hb dX10_init_4 rfl (lv_at hl 0 rfl) ?_
  refine lv_bipush (v := 40) hx hb dX10_init_5 (by decide) ?_
  refine n_newi C hP hD hS hA (by decide) (N := 40) (by decide) (Nat.le_of_ble_eq_true rfl) (Nat.le_of_ble_eq_true rfl) (Nat.le_of_ble_eq_true rfl) dX10_init_7 (fun q_1 H hP hD hS => ?_)
  have hP : va_P E.1 classes [(q0, .inr (10, [.null, .int 0, .int 0])), (q_1, .inl (E.2.1, 40, .inl (fun _ => 0)))] H := hP
  have hD : va_D A [(q0, .inr (10, [.null, .int 0, .int 0])), (q_1, .inl (E.2.1, 40, .inl (fun _ => 0)))] := hD
  refine pff_RX10_9 C hin hP hD hS 0 rfl (Nat.le_of_ble_eq_true rfl) dX10_init_9 (fun H locs hP hD hS => ?_)
  have hP : va_P E.1 classes [(q0, .inr (10, [.ref q_1, .int 0, .int 0])), (q_1, .inl (E.2.1, 40, .inl (fun _ => 0)))] H := hP
  have hD : va_D A [(q0, .inr (10, [.ref q_1, .int 0, .int 0])), (q_1, .inl (E.2.1, 40, .inl (fun _ => 0)))] := hD
  refine lv_aload_n hx hb dX10_init_12 rfl (lv_at hl 0 rfl) ?_
  refine lv_iconst (v := 1) hx hb dX10_init_13 (by decide) ?_
  refine pf_RX10_13 C hP hD hS 0 rfl (Nat.le_of_ble_eq_true rfl) dX10_init_14 (fun H locs hP hD hS => ?_)
  have hP : va_P E.1 classes [(q0, .inr (10, [.ref q_1, .int 0, .int 1])), (q_1, .inl (E.2.1, 40, .inl (fun _ => 0)))] H := hP
  have hD : va_D A [(q0, .inr (10, [.ref q_1, .int 0, .int 1])), (q_1, .inl (E.2.1, 40, .inl (fun _ => 0)))] := hD
  exact hret _ _ _ _ [q_1] dX10_init_17 hP hD hS
theorem q193 : Cond.methodLink RX4 3 Lib.objectInit ∈ Tg := Tg_mem 193 (by decide +kernel) (by decide +kernel)
theorem pff_RX4_11 {p : Program} {l : Launch} {e : Env} {R : Room} {s : State} {m : MethodId} {args : Array Value} {below : List Frame} {meth : Method} {c : Code} {H : Heap} {locs : List Loc} {cells slots : Nat} {Q : State → Prop} {E : ENV} {cc : ByteArray} {n : Nat} {r : Option FieldType} {pc : Nat} {ls : Array Slot} {rest : List Value} {a : Nat} {ws : va_W} {nm ds : String} {fs : List Value} {A : Nat → Prop} {H0 : Heap} {x : Nat} (C : Cx E A ⟨RX4, nm, ds⟩ cc n r p s m args meth c) (hin : meth.name = "<init>") (hP : va_P E.1 classes ws H) (hD : va_D A ws) (hS : va_S A H0 H locs) (q0 : Nat) (he : ws[q0]? = some (a, .inr (4, fs))) (hl : 0 < fs.length) (hdg : decode cc pc = .ok (.putfield 11, 3))
    (kk : ∀ (H1 : Heap) (locs1 : List Loc), va_P E.1 classes (ws.set q0 (a, .inr (4, fs.set 0 (.ref x)))) H1 → va_D A (ws.set q0 (a, .inr (4, fs.set 0 (.ref x)))) → va_S A H0 H1 locs1 → W p l e R s m args below meth c H1 locs1 cells slots Q (F0 m (pc + 3) ls rest)) : W p l e R s m args below meth c H locs cells slots Q (F0 m pc ls (.ref x :: .ref a :: rest)) :=
  va_putF (C := RX4) (T := TX4) (N := 6) (ty := (.array .int)) (Ts := wl ⟨RX4, nm, ds⟩ cc n r) C.1 C.2.1 C.2.2.2.2.1 (fun w h => List.mem_cons_of_mem _ (inT4 w h)) tyX4 tyX4_ok nmX4 C.2.2.2.1 C.2.2.2.2.2.1 hP hD hS q0 he rfl 0 (by decide) (C.2.2.2.2.1 _ (List.mem_cons_of_mem _ q194)) (fun _ h9 => h9) rfl hin rfl (by decide +kernel) rfl rfl hl hdg kk
theorem pff_RX4_15 {p : Program} {l : Launch} {e : Env} {R : Room} {s : State} {m : MethodId} {args : Array Value} {below : List Frame} {meth : Method} {c : Code} {H : Heap} {locs : List Loc} {cells slots : Nat} {Q : State → Prop} {E : ENV} {cc : ByteArray} {n : Nat} {r : Option FieldType} {pc : Nat} {ls : Array Slot} {rest : List Value} {a : Nat} {ws : va_W} {nm ds : String} {fs : List Value} {A : Nat → Prop} {H0 : Heap} {x : Nat} (C : Cx E A ⟨RX4, nm, ds⟩ cc n r p s m args meth c) (hin : meth.name = "<init>") (hP : va_P E.1 classes ws H) (hD : va_D A ws) (hS : va_S A H0 H locs) (q0 : Nat) (he : ws[q0]? = some (a, .inr (4, fs))) (hl : 1 < fs.length) (hdg : decode cc pc = .ok (.putfield 15, 3))
    (kk : ∀ (H1 : Heap) (locs1 : List Loc), va_P E.1 classes (ws.set q0 (a, .inr (4, fs.set 1 (.ref x)))) H1 → va_D A (ws.set q0 (a, .inr (4, fs.set 1 (.ref x)))) → va_S A H0 H1 locs1 → W p l e R s m args below meth c H1 locs1 cells slots Q (F0 m (pc + 3) ls rest)) : W p l e R s m args below meth c H locs cells slots Q (F0 m pc ls (.ref x :: .ref a :: rest)) :=
  va_putF (C := RX4) (T := TX4) (N := 6) (ty := (.array .int)) (Ts := wl ⟨RX4, nm, ds⟩ cc n r) C.1 C.2.1 C.2.2.2.2.1 (fun w h => List.mem_cons_of_mem _ (inT4 w h)) tyX4 tyX4_ok nmX4 C.2.2.2.1 C.2.2.2.2.2.1 hP hD hS q0 he rfl 1 (by decide) (C.2.2.2.2.1 _ (List.mem_cons_of_mem _ q195)) (fun _ h9 => h9) rfl hin rfl (by decide +kernel) rfl rfl hl hdg kk
theorem pff_RX4_18 {p : Program} {l : Launch} {e : Env} {R : Room} {s : State} {m : MethodId} {args : Array Value} {below : List Frame} {meth : Method} {c : Code} {H : Heap} {locs : List Loc} {cells slots : Nat} {Q : State → Prop} {E : ENV} {cc : ByteArray} {n : Nat} {r : Option FieldType} {pc : Nat} {ls : Array Slot} {rest : List Value} {a : Nat} {ws : va_W} {nm ds : String} {fs : List Value} {A : Nat → Prop} {H0 : Heap} {x : Nat} (C : Cx E A ⟨RX4, nm, ds⟩ cc n r p s m args meth c) (hin : meth.name = "<init>") (hP : va_P E.1 classes ws H) (hD : va_D A ws) (hS : va_S A H0 H locs) (q0 : Nat) (he : ws[q0]? = some (a, .inr (4, fs))) (hl : 2 < fs.length) (hdg : decode cc pc = .ok (.putfield 18, 3))
    (kk : ∀ (H1 : Heap) (locs1 : List Loc), va_P E.1 classes (ws.set q0 (a, .inr (4, fs.set 2 (.ref x)))) H1 → va_D A (ws.set q0 (a, .inr (4, fs.set 2 (.ref x)))) → va_S A H0 H1 locs1 → W p l e R s m args below meth c H1 locs1 cells slots Q (F0 m (pc + 3) ls rest)) : W p l e R s m args below meth c H locs cells slots Q (F0 m pc ls (.ref x :: .ref a :: rest)) :=
  va_putF (C := RX4) (T := TX4) (N := 6) (ty := (.array .int)) (Ts := wl ⟨RX4, nm, ds⟩ cc n r) C.1 C.2.1 C.2.2.2.2.1 (fun w h => List.mem_cons_of_mem _ (inT4 w h)) tyX4 tyX4_ok nmX4 C.2.2.2.1 C.2.2.2.2.2.1 hP hD hS q0 he rfl 2 (by decide) (C.2.2.2.2.1 _ (List.mem_cons_of_mem _ q196)) (fun _ h9 => h9) rfl hin rfl (by decide +kernel) rfl rfl hl hdg kk
theorem pff_RX4_21 {p : Program} {l : Launch} {e : Env} {R : Room} {s : State} {m : MethodId} {args : Array Value} {below : List Frame} {meth : Method} {c : Code} {H : Heap} {locs : List Loc} {cells slots : Nat} {Q : State → Prop} {E : ENV} {cc : ByteArray} {n : Nat} {r : Option FieldType} {pc : Nat} {ls : Array Slot} {rest : List Value} {a : Nat} {ws : va_W} {nm ds : String} {fs : List Value} {A : Nat → Prop} {H0 : Heap} {x : Nat} (C : Cx E A ⟨RX4, nm, ds⟩ cc n r p s m args meth c) (hin : meth.name = "<init>") (hP : va_P E.1 classes ws H) (hD : va_D A ws) (hS : va_S A H0 H locs) (q0 : Nat) (he : ws[q0]? = some (a, .inr (4, fs))) (hl : 3 < fs.length) (hdg : decode cc pc = .ok (.putfield 21, 3))
    (kk : ∀ (H1 : Heap) (locs1 : List Loc), va_P E.1 classes (ws.set q0 (a, .inr (4, fs.set 3 (.ref x)))) H1 → va_D A (ws.set q0 (a, .inr (4, fs.set 3 (.ref x)))) → va_S A H0 H1 locs1 → W p l e R s m args below meth c H1 locs1 cells slots Q (F0 m (pc + 3) ls rest)) : W p l e R s m args below meth c H locs cells slots Q (F0 m pc ls (.ref x :: .ref a :: rest)) :=
  va_putF (C := RX4) (T := TX4) (N := 6) (ty := (.array .int)) (Ts := wl ⟨RX4, nm, ds⟩ cc n r) C.1 C.2.1 C.2.2.2.2.1 (fun w h => List.mem_cons_of_mem _ (inT4 w h)) tyX4 tyX4_ok nmX4 C.2.2.2.1 C.2.2.2.2.2.1 hP hD hS q0 he rfl 3 (by decide) (C.2.2.2.2.1 _ (List.mem_cons_of_mem _ q197)) (fun _ h9 => h9) rfl hin rfl (by decide +kernel) rfl rfl hl hdg kk
theorem dX4_init_0 : decode cX4_init 0 = .ok (.aload_n 0, 1) := by decide +kernel
theorem dX4_init_1 : decode cX4_init 1 = .ok (.invokespecial 3, 3) := by decide +kernel
theorem dX4_init_4 : decode cX4_init 4 = .ok (.aload_n 0, 1) := by decide +kernel
theorem dX4_init_5 : decode cX4_init 5 = .ok (.bipush 40, 2) := by decide +kernel
theorem dX4_init_7 : decode cX4_init 7 = .ok (.newarray .int, 2) := by decide +kernel
theorem dX4_init_9 : decode cX4_init 9 = .ok (.putfield 11, 3) := by decide +kernel
theorem dX4_init_12 : decode cX4_init 12 = .ok (.aload_n 0, 1) := by decide +kernel
theorem dX4_init_13 : decode cX4_init 13 = .ok (.bipush 40, 2) := by decide +kernel
theorem dX4_init_15 : decode cX4_init 15 = .ok (.newarray .int, 2) := by decide +kernel
theorem dX4_init_17 : decode cX4_init 17 = .ok (.putfield 15, 3) := by decide +kernel
theorem dX4_init_20 : decode cX4_init 20 = .ok (.aload_n 0, 1) := by decide +kernel
theorem dX4_init_21 : decode cX4_init 21 = .ok (.bipush 40, 2) := by decide +kernel
theorem dX4_init_23 : decode cX4_init 23 = .ok (.newarray .int, 2) := by decide +kernel
theorem dX4_init_25 : decode cX4_init 25 = .ok (.putfield 18, 3) := by decide +kernel
theorem dX4_init_28 : decode cX4_init 28 = .ok (.aload_n 0, 1) := by decide +kernel
theorem dX4_init_29 : decode cX4_init 29 = .ok (.bipush 8, 2) := by decide +kernel
theorem dX4_init_31 : decode cX4_init 31 = .ok (.newarray .int, 2) := by decide +kernel
theorem dX4_init_33 : decode cX4_init 33 = .ok (.putfield 21, 3) := by decide +kernel
theorem dX4_init_36 : decode cX4_init 36 = .ok (.return_, 1) := by decide +kernel
def ZX4_init (E : ENV) (q0 : Nat) (u : List Nat) : va_W := [(q0, .inr (4, [.ref (u.getD 0 0), .ref (u.getD 1 0), .ref (u.getD 2 0), .ref (u.getD 3 0), .int 0, .int 0])), ((u.getD 0 0), .inl (E.2.1, 40, .inl (fun _ => 0))), ((u.getD 1 0), .inl (E.2.1, 40, .inl (fun _ => 0))), ((u.getD 2 0), .inl (E.2.1, 40, .inl (fun _ => 0))), ((u.getD 3 0), .inl (E.2.1, 8, .inl (fun _ => 0)))]
set_option maxHeartbeats 4000000 in
set_option maxRecDepth 20000 in
theorem kX4_init (l : Launch) (E : ENV) (q0 : Nat) : CN l E yX4_init cX4_init 1 1 4 128 [.ref q0] [(q0, .inr (4, [.null, .null, .null, .null, .int 0, .int 0]))] (ZX4_init E q0) := by
  refine begN (by decide +kernel) rfl (Nat.le_of_ble_eq_true rfl) ?_
  intro p e s m args below meth c A Q ls C hAO hin hA hret hl hP hD hS
  have hx := C.1
  have hb := C.2.1
  have htg : ∀ w ∈ Tg, w.before args s = true := fun w h => C.2.2.2.2.1 w (List.mem_cons_of_mem _ h)
  have hl : lv_has ls 1 [(0, .ref q0)] := hl
  refine lv_aload_n hx hb dX4_init_0 rfl (lv_at hl 0 rfl) ?_
  refine n_obj C q193 hl.1 (Nat.le_of_ble_eq_true rfl) (Nat.le_of_ble_eq_true rfl) dX4_init_1 ?_
  refine lv_aload_n hx hb dX4_init_4 rfl (lv_at hl 0 rfl) ?_
  refine lv_bipush (v := 40) hx hb dX4_init_5 (by decide) ?_
  refine n_newi C hP hD hS hA (by decide) (N := 40) (by decide) (Nat.le_of_ble_eq_true rfl) (Nat.le_of_ble_eq_true rfl) (Nat.le_of_ble_eq_true rfl) dX4_init_7 (fun q_1 H hP hD hS => ?_)
  have hP : va_P E.1 classes [(q0, .inr (4, [.null, .null, .null, .null, .int 0, .int 0])), (q_1, .inl (E.2.1, 40, .inl (fun _ => 0)))] H := hP
  have hD : va_D A [(q0, .inr (4, [.null, .null, .null, .null, .int 0, .int 0])), (q_1, .inl (E.2.1, 40, .inl (fun _ => 0)))] := hD
  refine pff_RX4_11 C hin hP hD hS 0 rfl (Nat.le_of_ble_eq_true rfl) dX4_init_9 (fun H locs hP hD hS => ?_)
  have hP : va_P E.1 classes [(q0, .inr (4, [.ref q_1, .null, .null, .null, .int 0, .int 0])), (q_1, .inl (E.2.1, 40, .inl (fun _ => 0)))] H := hP
  have hD : va_D A [(q0, .inr (4, [.ref q_1, .null, .null, .null, .int 0, .int 0])), (q_1, .inl (E.2.1, 40, .inl (fun _ => 0)))] := hD
  refine lv_aload_n hx hb dX4_init_12 rfl (lv_at hl 0 rfl) ?_
  refine lv_bipush (v := 40) hx hb dX4_init_13 (by decide) ?_
  refine n_newi C hP hD hS hA (by decide) (N := 40) (by decide) (Nat.le_of_ble_eq_true rfl) (Nat.le_of_ble_eq_true rfl) (Nat.le_of_ble_eq_true rfl) dX4_init_15 (fun q_2 H hP hD hS => ?_)
  have hP : va_P E.1 classes [(q0, .inr (4, [.ref q_1, .null, .null, .null, .int 0, .int 0])), (q_1, .inl (E.2.1, 40, .inl (fun _ => 0))), (q_2, .inl (E.2.1, 40, .inl (fun _ => 0)))] H := hP
  have hD : va_D A [(q0, .inr (4, [.ref q_1, .null, .null, .null, .int 0, .int 0])), (q_1, .inl (E.2.1, 40, .inl (fun _ => 0))), (q_2, .inl (E.2.1, 40, .inl (fun _ => 0)))] := hD
  refine pff_RX4_15 C hin hP hD hS 0 rfl (Nat.le_of_ble_eq_true rfl) dX4_init_17 (fun H locs hP hD hS => ?_)
  have hP : va_P E.1 classes [(q0, .inr (4, [.ref q_1, .ref q_2, .null, .null, .int 0, .int 0])), (q_1, .inl (E.2.1, 40, .inl (fun _ => 0))), (q_2, .inl (E.2.1, 40, .inl (fun _ => 0)))] H := hP
  have hD : va_D A [(q0, .inr (4, [.ref q_1, .ref q_2, .null, .null, .int 0, .int 0])), (q_1, .inl (E.2.1, 40, .inl (fun _ => 0))), (q_2, .inl (E.2.1, 40, .inl (fun _ => 0)))] := hD
  refine lv_aload_n hx hb dX4_init_20 rfl (lv_at hl 0 rfl) ?_
  refine lv_bipush (v := 40) hx hb dX4_init_21 (by decide) ?_
  refine n_newi C hP hD hS hA (by decide) (N := 40) (by decide) (Nat.le_of_ble_eq_true rfl) (Nat.le_of_ble_eq_true rfl) (Nat.le_of_ble_eq_true rfl) dX4_init_23 (fun q_3 H hP hD hS => ?_)
  have hP : va_P E.1 classes [(q0, .inr (4, [.ref q_1, .ref q_2, .null, .null, .int 0, .int 0])), (q_1, .inl (E.2.1, 40, .inl (fun _ => 0))), (q_2, .inl (E.2.1, 40, .inl (fun _ => 0))), (q_3, .inl (E.2.1, 40, .inl (fun _ => 0)))] H := hP
  have hD : va_D A [(q0, .inr (4, [.ref q_1, .ref q_2, .null, .null, .int 0, .int 0])), (q_1, .inl (E.2.1, 40, .inl (fun _ => 0))), (q_2, .inl (E.2.1, 40, .inl (fun _ => 0))), (q_3, .inl (E.2.1, 40, .inl (fun _ => 0)))] := hD
  refine pff_RX4_18 C hin hP hD hS 0 rfl (Nat.le_of_ble_eq_true rfl) dX4_init_25 (fun H locs hP hD hS => ?_)
  have hP : va_P E.1 classes [(q0, .inr (4, [.ref q_1, .ref q_2, .ref q_3, .null, .int 0, .int 0])), (q_1, .inl (E.2.1, 40, .inl (fun _ => 0))), (q_2, .inl (E.2.1, 40, .inl (fun _ => 0))), (q_3, .inl (E.2.1, 40, .inl (fun _ => 0)))] H := hP
  have hD : va_D A [(q0, .inr (4, [.ref q_1, .ref q_2, .ref q_3, .null, .int 0, .int 0])), (q_1, .inl (E.2.1, 40, .inl (fun _ => 0))), (q_2, .inl (E.2.1, 40, .inl (fun _ => 0))), (q_3, .inl (E.2.1, 40, .inl (fun _ => 0)))] := hD
  refine lv_aload_n hx hb dX4_init_28 rfl (lv_at hl 0 rfl) ?_
  refine lv_bipush (v := 8) hx hb dX4_init_29 (by decide) ?_
  refine n_newi C hP hD hS hA (by decide) (N := 8) (by decide) (Nat.le_of_ble_eq_true rfl) (Nat.le_of_ble_eq_true rfl) (Nat.le_of_ble_eq_true rfl) dX4_init_31 (fun q_4 H hP hD hS => ?_)
  have hP : va_P E.1 classes [(q0, .inr (4, [.ref q_1, .ref q_2, .ref q_3, .null, .int 0, .int 0])), (q_1, .inl (E.2.1, 40, .inl (fun _ => 0))), (q_2, .inl (E.2.1, 40, .inl (fun _ => 0))), (q_3, .inl (E.2.1, 40, .inl (fun _ => 0))), (q_4, .inl (E.2.1, 8, .inl (fun _ => 0)))] H := hP
  have hD : va_D A [(q0, .inr (4, [.ref q_1, .ref q_2, .ref q_3, .null, .int 0, .int 0])), (q_1, .inl (E.2.1, 40, .inl (fun _ => 0))), (q_2, .inl (E.2.1, 40, .inl (fun _ => 0))), (q_3, .inl (E.2.1, 40, .inl (fun _ => 0))), (q_4, .inl (E.2.1, 8, .inl (fun _ => 0)))] := hD
  refine pff_RX4_21 C hin hP hD hS 0 rfl (Nat.le_of_ble_eq_true rfl) dX4_init_33 (fun H locs hP hD hS => ?_)
  have hP : va_P E.1 classes [(q0, .inr (4, [.ref q_1, .ref q_2, .ref q_3, .ref q_4, .int 0, .int 0])), (q_1, .inl (E.2.1, 40, .inl (fun _ => 0))), (q_2, .inl (E.2.1, 40, .inl (fun _ => 0))), (q_3, .inl (E.2.1, 40, .inl (fun _ => 0))), (q_4, .inl (E.2.1, 8, .inl (fun _ => 0)))] H := hP
  have hD : va_D A [(q0, .inr (4, [.ref q_1, .ref q_2, .ref q_3, .ref q_4, .int 0, .int 0])), (q_1, .inl (E.2.1, 40, .inl (fun _ => 0))), (q_2, .inl (E.2.1, 40, .inl (fun _ => 0))), (q_3, .inl (E.2.1, 40, .inl (fun _ => 0))), (q_4, .inl (E.2.1, 8, .inl (fun _ => 0)))] := hD
  exact hret _ _ _ _ [q_1, q_2, q_3, q_4] dX4_init_36 hP hD hS
theorem q219 : Cond.methodLink RX0 3 Lib.objectInit ∈ Tg := Tg_mem 219 (by decide +kernel) (by decide +kernel)
theorem pff_RX0_11 {p : Program} {l : Launch} {e : Env} {R : Room} {s : State} {m : MethodId} {args : Array Value} {below : List Frame} {meth : Method} {c : Code} {H : Heap} {locs : List Loc} {cells slots : Nat} {Q : State → Prop} {E : ENV} {cc : ByteArray} {n : Nat} {r : Option FieldType} {pc : Nat} {ls : Array Slot} {rest : List Value} {a : Nat} {ws : va_W} {nm ds : String} {fs : List Value} {A : Nat → Prop} {H0 : Heap} {x : Nat} (C : Cx E A ⟨RX0, nm, ds⟩ cc n r p s m args meth c) (hin : meth.name = "<init>") (hP : va_P E.1 classes ws H) (hD : va_D A ws) (hS : va_S A H0 H locs) (q0 : Nat) (he : ws[q0]? = some (a, .inr (0, fs))) (hl : 0 < fs.length) (hdg : decode cc pc = .ok (.putfield 11, 3))
    (kk : ∀ (H1 : Heap) (locs1 : List Loc), va_P E.1 classes (ws.set q0 (a, .inr (0, fs.set 0 (.ref x)))) H1 → va_D A (ws.set q0 (a, .inr (0, fs.set 0 (.ref x)))) → va_S A H0 H1 locs1 → W p l e R s m args below meth c H1 locs1 cells slots Q (F0 m (pc + 3) ls rest)) : W p l e R s m args below meth c H locs cells slots Q (F0 m pc ls (.ref x :: .ref a :: rest)) :=
  va_putF (C := RX0) (T := TX0) (N := 4) (ty := (.array .int)) (Ts := wl ⟨RX0, nm, ds⟩ cc n r) C.1 C.2.1 C.2.2.2.2.1 (fun w h => List.mem_cons_of_mem _ (inT0 w h)) tyX0 tyX0_ok nmX0 C.2.2.2.1 C.2.2.2.2.2.1 hP hD hS q0 he rfl 0 (by decide) (C.2.2.2.2.1 _ (List.mem_cons_of_mem _ q220)) (fun _ h9 => h9) rfl hin rfl (by decide +kernel) rfl rfl hl hdg kk
theorem pff_RX0_15 {p : Program} {l : Launch} {e : Env} {R : Room} {s : State} {m : MethodId} {args : Array Value} {below : List Frame} {meth : Method} {c : Code} {H : Heap} {locs : List Loc} {cells slots : Nat} {Q : State → Prop} {E : ENV} {cc : ByteArray} {n : Nat} {r : Option FieldType} {pc : Nat} {ls : Array Slot} {rest : List Value} {a : Nat} {ws : va_W} {nm ds : String} {fs : List Value} {A : Nat → Prop} {H0 : Heap} {x : Nat} (C : Cx E A ⟨RX0, nm, ds⟩ cc n r p s m args meth c) (hin : meth.name = "<init>") (hP : va_P E.1 classes ws H) (hD : va_D A ws) (hS : va_S A H0 H locs) (q0 : Nat) (he : ws[q0]? = some (a, .inr (0, fs))) (hl : 1 < fs.length) (hdg : decode cc pc = .ok (.putfield 15, 3))
    (kk : ∀ (H1 : Heap) (locs1 : List Loc), va_P E.1 classes (ws.set q0 (a, .inr (0, fs.set 1 (.ref x)))) H1 → va_D A (ws.set q0 (a, .inr (0, fs.set 1 (.ref x)))) → va_S A H0 H1 locs1 → W p l e R s m args below meth c H1 locs1 cells slots Q (F0 m (pc + 3) ls rest)) : W p l e R s m args below meth c H locs cells slots Q (F0 m pc ls (.ref x :: .ref a :: rest)) :=
  va_putF (C := RX0) (T := TX0) (N := 4) (ty := (.array .int)) (Ts := wl ⟨RX0, nm, ds⟩ cc n r) C.1 C.2.1 C.2.2.2.2.1 (fun w h => List.mem_cons_of_mem _ (inT0 w h)) tyX0 tyX0_ok nmX0 C.2.2.2.1 C.2.2.2.2.2.1 hP hD hS q0 he rfl 1 (by decide) (C.2.2.2.2.1 _ (List.mem_cons_of_mem _ q222)) (fun _ h9 => h9) rfl hin rfl (by decide +kernel) rfl rfl hl hdg kk
theorem pff_RX0_18 {p : Program} {l : Launch} {e : Env} {R : Room} {s : State} {m : MethodId} {args : Array Value} {below : List Frame} {meth : Method} {c : Code} {H : Heap} {locs : List Loc} {cells slots : Nat} {Q : State → Prop} {E : ENV} {cc : ByteArray} {n : Nat} {r : Option FieldType} {pc : Nat} {ls : Array Slot} {rest : List Value} {a : Nat} {ws : va_W} {nm ds : String} {fs : List Value} {A : Nat → Prop} {H0 : Heap} {x : Nat} (C : Cx E A ⟨RX0, nm, ds⟩ cc n r p s m args meth c) (hin : meth.name = "<init>") (hP : va_P E.1 classes ws H) (hD : va_D A ws) (hS : va_S A H0 H locs) (q0 : Nat) (he : ws[q0]? = some (a, .inr (0, fs))) (hl : 2 < fs.length) (hdg : decode cc pc = .ok (.putfield 18, 3))
    (kk : ∀ (H1 : Heap) (locs1 : List Loc), va_P E.1 classes (ws.set q0 (a, .inr (0, fs.set 2 (.ref x)))) H1 → va_D A (ws.set q0 (a, .inr (0, fs.set 2 (.ref x)))) → va_S A H0 H1 locs1 → W p l e R s m args below meth c H1 locs1 cells slots Q (F0 m (pc + 3) ls rest)) : W p l e R s m args below meth c H locs cells slots Q (F0 m pc ls (.ref x :: .ref a :: rest)) :=
  va_putF (C := RX0) (T := TX0) (N := 4) (ty := (.array .int)) (Ts := wl ⟨RX0, nm, ds⟩ cc n r) C.1 C.2.1 C.2.2.2.2.1 (fun w h => List.mem_cons_of_mem _ (inT0 w h)) tyX0 tyX0_ok nmX0 C.2.2.2.1 C.2.2.2.2.2.1 hP hD hS q0 he rfl 2 (by decide) (C.2.2.2.2.1 _ (List.mem_cons_of_mem _ q224)) (fun _ h9 => h9) rfl hin rfl (by decide +kernel) rfl rfl hl hdg kk
theorem dX0_init_0 : decode cX0_init 0 = .ok (.aload_n 0, 1) := by decide +kernel
theorem dX0_init_1 : decode cX0_init 1 = .ok (.invokespecial 3, 3) := by decide +kernel
theorem dX0_init_4 : decode cX0_init 4 = .ok (.aload_n 0, 1) := by decide +kernel
theorem dX0_init_5 : decode cX0_init 5 = .ok (.bipush 30, 2) := by decide +kernel
theorem dX0_init_7 : decode cX0_init 7 = .ok (.newarray .int, 2) := by decide +kernel
theorem dX0_init_9 : decode cX0_init 9 = .ok (.putfield 11, 3) := by decide +kernel
theorem dX0_init_12 : decode cX0_init 12 = .ok (.aload_n 0, 1) := by decide +kernel
theorem dX0_init_13 : decode cX0_init 13 = .ok (.bipush 30, 2) := by decide +kernel
theorem dX0_init_15 : decode cX0_init 15 = .ok (.newarray .int, 2) := by decide +kernel
theorem dX0_init_17 : decode cX0_init 17 = .ok (.putfield 15, 3) := by decide +kernel
theorem dX0_init_20 : decode cX0_init 20 = .ok (.aload_n 0, 1) := by decide +kernel
theorem dX0_init_21 : decode cX0_init 21 = .ok (.bipush 30, 2) := by decide +kernel
theorem dX0_init_23 : decode cX0_init 23 = .ok (.newarray .int, 2) := by decide +kernel
theorem dX0_init_25 : decode cX0_init 25 = .ok (.putfield 18, 3) := by decide +kernel
theorem dX0_init_28 : decode cX0_init 28 = .ok (.return_, 1) := by decide +kernel
def ZX0_init (E : ENV) (q0 : Nat) (u : List Nat) : va_W := [(q0, .inr (0, [.ref (u.getD 0 0), .ref (u.getD 1 0), .ref (u.getD 2 0), .int 0])), ((u.getD 0 0), .inl (E.2.1, 30, .inl (fun _ => 0))), ((u.getD 1 0), .inl (E.2.1, 30, .inl (fun _ => 0))), ((u.getD 2 0), .inl (E.2.1, 30, .inl (fun _ => 0)))]
set_option maxHeartbeats 4000000 in
set_option maxRecDepth 20000 in
theorem kX0_init (l : Launch) (E : ENV) (q0 : Nat) : CN l E yX0_init cX0_init 1 1 3 90 [.ref q0] [(q0, .inr (0, [.null, .null, .null, .int 0]))] (ZX0_init E q0) := by
  refine begN (by decide +kernel) rfl (Nat.le_of_ble_eq_true rfl) ?_
  intro p e s m args below meth c A Q ls C hAO hin hA hret hl hP hD hS
  have hx := C.1
  have hb := C.2.1
  have htg : ∀ w ∈ Tg, w.before args s = true := fun w h => C.2.2.2.2.1 w (List.mem_cons_of_mem _ h)
  have hl : lv_has ls 1 [(0, .ref q0)] := hl
  refine lv_aload_n hx hb dX0_init_0 rfl (lv_at hl 0 rfl) ?_
  refine n_obj C q219 hl.1 (Nat.le_of_ble_eq_true rfl) (Nat.le_of_ble_eq_true rfl) dX0_init_1 ?_
  refine lv_aload_n hx hb dX0_init_4 rfl (lv_at hl 0 rfl) ?_
  refine lv_bipush (v := 30) hx hb dX0_init_5 (by decide) ?_
  refine n_newi C hP hD hS hA (by decide) (N := 30) (by decide) (Nat.le_of_ble_eq_true rfl) (Nat.le_of_ble_eq_true rfl) (Nat.le_of_ble_eq_true rfl) dX0_init_7 (fun q_1 H hP hD hS => ?_)
  have hP : va_P E.1 classes [(q0, .inr (0, [.null, .null, .null, .int 0])), (q_1, .inl (E.2.1, 30, .inl (fun _ => 0)))] H := hP
  have hD : va_D A [(q0, .inr (0, [.null, .null, .null, .int 0])), (q_1, .inl (E.2.1, 30, .inl (fun _ => 0)))] := hD
  refine pff_RX0_11 C hin hP hD hS 0 rfl (Nat.le_of_ble_eq_true rfl) dX0_init_9 (fun H locs hP hD hS => ?_)
  have hP : va_P E.1 classes [(q0, .inr (0, [.ref q_1, .null, .null, .int 0])), (q_1, .inl (E.2.1, 30, .inl (fun _ => 0)))] H := hP
  have hD : va_D A [(q0, .inr (0, [.ref q_1, .null, .null, .int 0])), (q_1, .inl (E.2.1, 30, .inl (fun _ => 0)))] := hD
  refine lv_aload_n hx hb dX0_init_12 rfl (lv_at hl 0 rfl) ?_
  refine lv_bipush (v := 30) hx hb dX0_init_13 (by decide) ?_
  refine n_newi C hP hD hS hA (by decide) (N := 30) (by decide) (Nat.le_of_ble_eq_true rfl) (Nat.le_of_ble_eq_true rfl) (Nat.le_of_ble_eq_true rfl) dX0_init_15 (fun q_2 H hP hD hS => ?_)
  have hP : va_P E.1 classes [(q0, .inr (0, [.ref q_1, .null, .null, .int 0])), (q_1, .inl (E.2.1, 30, .inl (fun _ => 0))), (q_2, .inl (E.2.1, 30, .inl (fun _ => 0)))] H := hP
  have hD : va_D A [(q0, .inr (0, [.ref q_1, .null, .null, .int 0])), (q_1, .inl (E.2.1, 30, .inl (fun _ => 0))), (q_2, .inl (E.2.1, 30, .inl (fun _ => 0)))] := hD
  refine pff_RX0_15 C hin hP hD hS 0 rfl (Nat.le_of_ble_eq_true rfl) dX0_init_17 (fun H locs hP hD hS => ?_)
  have hP : va_P E.1 classes [(q0, .inr (0, [.ref q_1, .ref q_2, .null, .int 0])), (q_1, .inl (E.2.1, 30, .inl (fun _ => 0))), (q_2, .inl (E.2.1, 30, .inl (fun _ => 0)))] H := hP
  have hD : va_D A [(q0, .inr (0, [.ref q_1, .ref q_2, .null, .int 0])), (q_1, .inl (E.2.1, 30, .inl (fun _ => 0))), (q_2, .inl (E.2.1, 30, .inl (fun _ => 0)))] := hD
  refine lv_aload_n hx hb dX0_init_20 rfl (lv_at hl 0 rfl) ?_
  refine lv_bipush (v := 30) hx hb dX0_init_21 (by decide) ?_
  refine n_newi C hP hD hS hA (by decide) (N := 30) (by decide) (Nat.le_of_ble_eq_true rfl) (Nat.le_of_ble_eq_true rfl) (Nat.le_of_ble_eq_true rfl) dX0_init_23 (fun q_3 H hP hD hS => ?_)
  have hP : va_P E.1 classes [(q0, .inr (0, [.ref q_1, .ref q_2, .null, .int 0])), (q_1, .inl (E.2.1, 30, .inl (fun _ => 0))), (q_2, .inl (E.2.1, 30, .inl (fun _ => 0))), (q_3, .inl (E.2.1, 30, .inl (fun _ => 0)))] H := hP
  have hD : va_D A [(q0, .inr (0, [.ref q_1, .ref q_2, .null, .int 0])), (q_1, .inl (E.2.1, 30, .inl (fun _ => 0))), (q_2, .inl (E.2.1, 30, .inl (fun _ => 0))), (q_3, .inl (E.2.1, 30, .inl (fun _ => 0)))] := hD
  refine pff_RX0_18 C hin hP hD hS 0 rfl (Nat.le_of_ble_eq_true rfl) dX0_init_25 (fun H locs hP hD hS => ?_)
  have hP : va_P E.1 classes [(q0, .inr (0, [.ref q_1, .ref q_2, .ref q_3, .int 0])), (q_1, .inl (E.2.1, 30, .inl (fun _ => 0))), (q_2, .inl (E.2.1, 30, .inl (fun _ => 0))), (q_3, .inl (E.2.1, 30, .inl (fun _ => 0)))] H := hP
  have hD : va_D A [(q0, .inr (0, [.ref q_1, .ref q_2, .ref q_3, .int 0])), (q_1, .inl (E.2.1, 30, .inl (fun _ => 0))), (q_2, .inl (E.2.1, 30, .inl (fun _ => 0))), (q_3, .inl (E.2.1, 30, .inl (fun _ => 0)))] := hD
  exact hret _ _ _ _ [q_1, q_2, q_3] dX0_init_28 hP hD hS
theorem q368 : Cond.methodLink RX3 3 Lib.objectInit ∈ Tg := Tg_mem 368 (by decide +kernel) (by decide +kernel)
theorem pff_RX3_9 {p : Program} {l : Launch} {e : Env} {R : Room} {s : State} {m : MethodId} {args : Array Value} {below : List Frame} {meth : Method} {c : Code} {H : Heap} {locs : List Loc} {cells slots : Nat} {Q : State → Prop} {E : ENV} {cc : ByteArray} {n : Nat} {r : Option FieldType} {pc : Nat} {ls : Array Slot} {rest : List Value} {a : Nat} {ws : va_W} {nm ds : String} {fs : List Value} {A : Nat → Prop} {H0 : Heap} {x : Nat} (C : Cx E A ⟨RX3, nm, ds⟩ cc n r p s m args meth c) (hin : meth.name = "<init>") (hP : va_P E.1 classes ws H) (hD : va_D A ws) (hS : va_S A H0 H locs) (q0 : Nat) (he : ws[q0]? = some (a, .inr (3, fs))) (hl : 0 < fs.length) (hdg : decode cc pc = .ok (.putfield 9, 3))
    (kk : ∀ (H1 : Heap) (locs1 : List Loc), va_P E.1 classes (ws.set q0 (a, .inr (3, fs.set 0 (.ref x)))) H1 → va_D A (ws.set q0 (a, .inr (3, fs.set 0 (.ref x)))) → va_S A H0 H1 locs1 → W p l e R s m args below meth c H1 locs1 cells slots Q (F0 m (pc + 3) ls rest)) : W p l e R s m args below meth c H locs cells slots Q (F0 m pc ls (.ref x :: .ref a :: rest)) :=
  va_putF (C := RX3) (T := TX3) (N := 4) (ty := (.array .int)) (Ts := wl ⟨RX3, nm, ds⟩ cc n r) C.1 C.2.1 C.2.2.2.2.1 (fun w h => List.mem_cons_of_mem _ (inT3 w h)) tyX3 tyX3_ok nmX3 C.2.2.2.1 C.2.2.2.2.2.1 hP hD hS q0 he rfl 0 (by decide) (C.2.2.2.2.1 _ (List.mem_cons_of_mem _ q369)) (fun _ h9 => h9) rfl hin rfl (by decide +kernel) rfl rfl hl hdg kk
theorem pff_RX3_15 {p : Program} {l : Launch} {e : Env} {R : Room} {s : State} {m : MethodId} {args : Array Value} {below : List Frame} {meth : Method} {c : Code} {H : Heap} {locs : List Loc} {cells slots : Nat} {Q : State → Prop} {E : ENV} {cc : ByteArray} {n : Nat} {r : Option FieldType} {pc : Nat} {ls : Array Slot} {rest : List Value} {a : Nat} {ws : va_W} {nm ds : String} {fs : List Value} {A : Nat → Prop} {H0 : Heap} {x : Nat} (C : Cx E A ⟨RX3, nm, ds⟩ cc n r p s m args meth c) (hin : meth.name = "<init>") (hP : va_P E.1 classes ws H) (hD : va_D A ws) (hS : va_S A H0 H locs) (q0 : Nat) (he : ws[q0]? = some (a, .inr (3, fs))) (hl : 1 < fs.length) (hdg : decode cc pc = .ok (.putfield 15, 3))
    (kk : ∀ (H1 : Heap) (locs1 : List Loc), va_P E.1 classes (ws.set q0 (a, .inr (3, fs.set 1 (.ref x)))) H1 → va_D A (ws.set q0 (a, .inr (3, fs.set 1 (.ref x)))) → va_S A H0 H1 locs1 → W p l e R s m args below meth c H1 locs1 cells slots Q (F0 m (pc + 3) ls rest)) : W p l e R s m args below meth c H locs cells slots Q (F0 m pc ls (.ref x :: .ref a :: rest)) :=
  va_putF (C := RX3) (T := TX3) (N := 4) (ty := (.array .int)) (Ts := wl ⟨RX3, nm, ds⟩ cc n r) C.1 C.2.1 C.2.2.2.2.1 (fun w h => List.mem_cons_of_mem _ (inT3 w h)) tyX3 tyX3_ok nmX3 C.2.2.2.1 C.2.2.2.2.2.1 hP hD hS q0 he rfl 1 (by decide) (C.2.2.2.2.1 _ (List.mem_cons_of_mem _ q371)) (fun _ h9 => h9) rfl hin rfl (by decide +kernel) rfl rfl hl hdg kk
theorem dX3_init_0 : decode cX3_init 0 = .ok (.aload_n 0, 1) := by decide +kernel
theorem dX3_init_1 : decode cX3_init 1 = .ok (.invokespecial 3, 3) := by decide +kernel
theorem dX3_init_4 : decode cX3_init 4 = .ok (.aload_n 0, 1) := by decide +kernel
theorem dX3_init_5 : decode cX3_init 5 = .ok (.bipush 7, 2) := by decide +kernel
theorem dX3_init_7 : decode cX3_init 7 = .ok (.newarray .int, 2) := by decide +kernel
theorem dX3_init_9 : decode cX3_init 9 = .ok (.putfield 9, 3) := by decide +kernel
theorem dX3_init_12 : decode cX3_init 12 = .ok (.aload_n 0, 1) := by decide +kernel
theorem dX3_init_13 : decode cX3_init 13 = .ok (.bipush 7, 2) := by decide +kernel
theorem dX3_init_15 : decode cX3_init 15 = .ok (.newarray .int, 2) := by decide +kernel
theorem dX3_init_17 : decode cX3_init 17 = .ok (.putfield 15, 3) := by decide +kernel
theorem dX3_init_20 : decode cX3_init 20 = .ok (.return_, 1) := by decide +kernel
def ZX3_init (E : ENV) (q0 : Nat) (u : List Nat) : va_W := [(q0, .inr (3, [.ref (u.getD 0 0), .ref (u.getD 1 0), .int 0, .int 0])), ((u.getD 0 0), .inl (E.2.1, 7, .inl (fun _ => 0))), ((u.getD 1 0), .inl (E.2.1, 7, .inl (fun _ => 0)))]
set_option maxHeartbeats 4000000 in
set_option maxRecDepth 20000 in
theorem kX3_init (l : Launch) (E : ENV) (q0 : Nat) : CN l E yX3_init cX3_init 1 1 2 14 [.ref q0] [(q0, .inr (3, [.null, .null, .int 0, .int 0]))] (ZX3_init E q0) := by
  refine begN (by decide +kernel) rfl (Nat.le_of_ble_eq_true rfl) ?_
  intro p e s m args below meth c A Q ls C hAO hin hA hret hl hP hD hS
  have hx := C.1
  have hb := C.2.1
  have htg : ∀ w ∈ Tg, w.before args s = true := fun w h => C.2.2.2.2.1 w (List.mem_cons_of_mem _ h)
  have hl : lv_has ls 1 [(0, .ref q0)] := hl
  refine lv_aload_n hx hb dX3_init_0 rfl (lv_at hl 0 rfl) ?_
  refine n_obj C q368 hl.1 (Nat.le_of_ble_eq_true rfl) (Nat.le_of_ble_eq_true rfl) dX3_init_1 ?_
  refine lv_aload_n hx hb dX3_init_4 rfl (lv_at hl 0 rfl) ?_
  refine lv_bipush (v := 7) hx hb dX3_init_5 (by decide) ?_
  refine n_newi C hP hD hS hA (by decide) (N := 7) (by decide) (Nat.le_of_ble_eq_true rfl) (Nat.le_of_ble_eq_true rfl) (Nat.le_of_ble_eq_true rfl) dX3_init_7 (fun q_1 H hP hD hS => ?_)
  have hP : va_P E.1 classes [(q0, .inr (3, [.null, .null, .int 0, .int 0])), (q_1, .inl (E.2.1, 7, .inl (fun _ => 0)))] H := hP
  have hD : va_D A [(q0, .inr (3, [.null, .null, .int 0, .int 0])), (q_1, .inl (E.2.1, 7, .inl (fun _ => 0)))] := hD
  refine pff_RX3_9 C hin hP hD hS 0 rfl (Nat.le_of_ble_eq_true rfl) dX3_init_9 (fun H locs hP hD hS => ?_)
  have hP : va_P E.1 classes [(q0, .inr (3, [.ref q_1, .null, .int 0, .int 0])), (q_1, .inl (E.2.1, 7, .inl (fun _ => 0)))] H := hP
  have hD : va_D A [(q0, .inr (3, [.ref q_1, .null, .int 0, .int 0])), (q_1, .inl (E.2.1, 7, .inl (fun _ => 0)))] := hD
  refine lv_aload_n hx hb dX3_init_12 rfl (lv_at hl 0 rfl) ?_
  refine lv_bipush (v := 7) hx hb dX3_init_13 (by decide) ?_
  refine n_newi C hP hD hS hA (by decide) (N := 7) (by decide) (Nat.le_of_ble_eq_true rfl) (Nat.le_of_ble_eq_true rfl) (Nat.le_of_ble_eq_true rfl) dX3_init_15 (fun q_2 H hP hD hS => ?_)
  have hP : va_P E.1 classes [(q0, .inr (3, [.ref q_1, .null, .int 0, .int 0])), (q_1, .inl (E.2.1, 7, .inl (fun _ => 0))), (q_2, .inl (E.2.1, 7, .inl (fun _ => 0)))] H := hP
  have hD : va_D A [(q0, .inr (3, [.ref q_1, .null, .int 0, .int 0])), (q_1, .inl (E.2.1, 7, .inl (fun _ => 0))), (q_2, .inl (E.2.1, 7, .inl (fun _ => 0)))] := hD
  refine pff_RX3_15 C hin hP hD hS 0 rfl (Nat.le_of_ble_eq_true rfl) dX3_init_17 (fun H locs hP hD hS => ?_)
  have hP : va_P E.1 classes [(q0, .inr (3, [.ref q_1, .ref q_2, .int 0, .int 0])), (q_1, .inl (E.2.1, 7, .inl (fun _ => 0))), (q_2, .inl (E.2.1, 7, .inl (fun _ => 0)))] H := hP
  have hD : va_D A [(q0, .inr (3, [.ref q_1, .ref q_2, .int 0, .int 0])), (q_1, .inl (E.2.1, 7, .inl (fun _ => 0))), (q_2, .inl (E.2.1, 7, .inl (fun _ => 0)))] := hD
  exact hret _ _ _ _ [q_1, q_2] dX3_init_20 hP hD hS
theorem q390 : Cond.methodLink RX8 3 Lib.objectInit ∈ Tg := Tg_mem 390 (by decide +kernel) (by decide +kernel)
theorem pff_RX8_11 {p : Program} {l : Launch} {e : Env} {R : Room} {s : State} {m : MethodId} {args : Array Value} {below : List Frame} {meth : Method} {c : Code} {H : Heap} {locs : List Loc} {cells slots : Nat} {Q : State → Prop} {E : ENV} {cc : ByteArray} {n : Nat} {r : Option FieldType} {pc : Nat} {ls : Array Slot} {rest : List Value} {a : Nat} {ws : va_W} {nm ds : String} {fs : List Value} {A : Nat → Prop} {H0 : Heap} {x : Nat} (C : Cx E A ⟨RX8, nm, ds⟩ cc n r p s m args meth c) (hin : meth.name = "<init>") (hP : va_P E.1 classes ws H) (hD : va_D A ws) (hS : va_S A H0 H locs) (q0 : Nat) (he : ws[q0]? = some (a, .inr (8, fs))) (hl : 0 < fs.length) (hdg : decode cc pc = .ok (.putfield 11, 3))
    (kk : ∀ (H1 : Heap) (locs1 : List Loc), va_P E.1 classes (ws.set q0 (a, .inr (8, fs.set 0 (.ref x)))) H1 → va_D A (ws.set q0 (a, .inr (8, fs.set 0 (.ref x)))) → va_S A H0 H1 locs1 → W p l e R s m args below meth c H1 locs1 cells slots Q (F0 m (pc + 3) ls rest)) : W p l e R s m args below meth c H locs cells slots Q (F0 m pc ls (.ref x :: .ref a :: rest)) :=
  va_putF (C := RX8) (T := TX8) (N := 4) (ty := (.array .int)) (Ts := wl ⟨RX8, nm, ds⟩ cc n r) C.1 C.2.1 C.2.2.2.2.1 (fun w h => List.mem_cons_of_mem _ (inT8 w h)) tyX8 tyX8_ok nmX8 C.2.2.2.1 C.2.2.2.2.2.1 hP hD hS q0 he rfl 0 (by decide) (C.2.2.2.2.1 _ (List.mem_cons_of_mem _ q391)) (fun _ h9 => h9) rfl hin rfl (by decide +kernel) rfl rfl hl hdg kk
theorem pff_RX8_15 {p : Program} {l : Launch} {e : Env} {R : Room} {s : State} {m : MethodId} {args : Array Value} {below : List Frame} {meth : Method} {c : Code} {H : Heap} {locs : List Loc} {cells slots : Nat} {Q : State → Prop} {E : ENV} {cc : ByteArray} {n : Nat} {r : Option FieldType} {pc : Nat} {ls : Array Slot} {rest : List Value} {a : Nat} {ws : va_W} {nm ds : String} {fs : List Value} {A : Nat → Prop} {H0 : Heap} {x : Nat} (C : Cx E A ⟨RX8, nm, ds⟩ cc n r p s m args meth c) (hin : meth.name = "<init>") (hP : va_P E.1 classes ws H) (hD : va_D A ws) (hS : va_S A H0 H locs) (q0 : Nat) (he : ws[q0]? = some (a, .inr (8, fs))) (hl : 1 < fs.length) (hdg : decode cc pc = .ok (.putfield 15, 3))
    (kk : ∀ (H1 : Heap) (locs1 : List Loc), va_P E.1 classes (ws.set q0 (a, .inr (8, fs.set 1 (.ref x)))) H1 → va_D A (ws.set q0 (a, .inr (8, fs.set 1 (.ref x)))) → va_S A H0 H1 locs1 → W p l e R s m args below meth c H1 locs1 cells slots Q (F0 m (pc + 3) ls rest)) : W p l e R s m args below meth c H locs cells slots Q (F0 m pc ls (.ref x :: .ref a :: rest)) :=
  va_putF (C := RX8) (T := TX8) (N := 4) (ty := (.array .int)) (Ts := wl ⟨RX8, nm, ds⟩ cc n r) C.1 C.2.1 C.2.2.2.2.1 (fun w h => List.mem_cons_of_mem _ (inT8 w h)) tyX8 tyX8_ok nmX8 C.2.2.2.1 C.2.2.2.2.2.1 hP hD hS q0 he rfl 1 (by decide) (C.2.2.2.2.1 _ (List.mem_cons_of_mem _ q392)) (fun _ h9 => h9) rfl hin rfl (by decide +kernel) rfl rfl hl hdg kk
theorem pff_RX8_18 {p : Program} {l : Launch} {e : Env} {R : Room} {s : State} {m : MethodId} {args : Array Value} {below : List Frame} {meth : Method} {c : Code} {H : Heap} {locs : List Loc} {cells slots : Nat} {Q : State → Prop} {E : ENV} {cc : ByteArray} {n : Nat} {r : Option FieldType} {pc : Nat} {ls : Array Slot} {rest : List Value} {a : Nat} {ws : va_W} {nm ds : String} {fs : List Value} {A : Nat → Prop} {H0 : Heap} {x : Nat} (C : Cx E A ⟨RX8, nm, ds⟩ cc n r p s m args meth c) (hin : meth.name = "<init>") (hP : va_P E.1 classes ws H) (hD : va_D A ws) (hS : va_S A H0 H locs) (q0 : Nat) (he : ws[q0]? = some (a, .inr (8, fs))) (hl : 2 < fs.length) (hdg : decode cc pc = .ok (.putfield 18, 3))
    (kk : ∀ (H1 : Heap) (locs1 : List Loc), va_P E.1 classes (ws.set q0 (a, .inr (8, fs.set 2 (.ref x)))) H1 → va_D A (ws.set q0 (a, .inr (8, fs.set 2 (.ref x)))) → va_S A H0 H1 locs1 → W p l e R s m args below meth c H1 locs1 cells slots Q (F0 m (pc + 3) ls rest)) : W p l e R s m args below meth c H locs cells slots Q (F0 m pc ls (.ref x :: .ref a :: rest)) :=
  va_putF (C := RX8) (T := TX8) (N := 4) (ty := (.array .int)) (Ts := wl ⟨RX8, nm, ds⟩ cc n r) C.1 C.2.1 C.2.2.2.2.1 (fun w h => List.mem_cons_of_mem _ (inT8 w h)) tyX8 tyX8_ok nmX8 C.2.2.2.1 C.2.2.2.2.2.1 hP hD hS q0 he rfl 2 (by decide) (C.2.2.2.2.1 _ (List.mem_cons_of_mem _ q393)) (fun _ h9 => h9) rfl hin rfl (by decide +kernel) rfl rfl hl hdg kk
theorem dX8_init_0 : decode cX8_init 0 = .ok (.aload_n 0, 1) := by decide +kernel
theorem dX8_init_1 : decode cX8_init 1 = .ok (.invokespecial 3, 3) := by decide +kernel
theorem dX8_init_4 : decode cX8_init 4 = .ok (.aload_n 0, 1) := by decide +kernel
theorem dX8_init_5 : decode cX8_init 5 = .ok (.bipush 20, 2) := by decide +kernel
theorem dX8_init_7 : decode cX8_init 7 = .ok (.newarray .int, 2) := by decide +kernel
theorem dX8_init_9 : decode cX8_init 9 = .ok (.putfield 11, 3) := by decide +kernel
theorem dX8_init_12 : decode cX8_init 12 = .ok (.aload_n 0, 1) := by decide +kernel
theorem dX8_init_13 : decode cX8_init 13 = .ok (.bipush 20, 2) := by decide +kernel
theorem dX8_init_15 : decode cX8_init 15 = .ok (.newarray .int, 2) := by decide +kernel
theorem dX8_init_17 : decode cX8_init 17 = .ok (.putfield 15, 3) := by decide +kernel
theorem dX8_init_20 : decode cX8_init 20 = .ok (.aload_n 0, 1) := by decide +kernel
theorem dX8_init_21 : decode cX8_init 21 = .ok (.bipush 31, 2) := by decide +kernel
theorem dX8_init_23 : decode cX8_init 23 = .ok (.newarray .int, 2) := by decide +kernel
theorem dX8_init_25 : decode cX8_init 25 = .ok (.putfield 18, 3) := by decide +kernel
theorem dX8_init_28 : decode cX8_init 28 = .ok (.return_, 1) := by decide +kernel
def ZX8_init (E : ENV) (q0 : Nat) (u : List Nat) : va_W := [(q0, .inr (8, [.ref (u.getD 0 0), .ref (u.getD 1 0), .ref (u.getD 2 0), .int 0])), ((u.getD 0 0), .inl (E.2.1, 20, .inl (fun _ => 0))), ((u.getD 1 0), .inl (E.2.1, 20, .inl (fun _ => 0))), ((u.getD 2 0), .inl (E.2.1, 31, .inl (fun _ => 0)))]
set_option maxHeartbeats 4000000 in
set_option maxRecDepth 20000 in
theorem kX8_init (l : Launch) (E : ENV) (q0 : Nat) : CN l E yX8_init cX8_init 1 1 3 71 [.ref q0] [(q0, .inr (8, [.null, .null, .null, .int 0]))] (ZX8_init E q0) := by
  refine begN (by decide +kernel) rfl (Nat.le_of_ble_eq_true rfl) ?_
  intro p e s m args below meth c A Q ls C hAO hin hA hret hl hP hD hS
  have hx := C.1
  have hb := C.2.1
  have htg : ∀ w ∈ Tg, w.before args s = true := fun w h => C.2.2.2.2.1 w (List.mem_cons_of_mem _ h)
  have hl : lv_has ls 1 [(0, .ref q0)] := hl
  refine lv_aload_n hx hb dX8_init_0 rfl (lv_at hl 0 rfl) ?_
  refine n_obj C q390 hl.1 (Nat.le_of_ble_eq_true rfl) (Nat.le_of_ble_eq_true rfl) dX8_init_1 ?_
  refine lv_aload_n hx hb dX8_init_4 rfl (lv_at hl 0 rfl) ?_
  refine lv_bipush (v := 20) hx hb dX8_init_5 (by decide) ?_
  refine n_newi C hP hD hS hA (by decide) (N := 20) (by decide) (Nat.le_of_ble_eq_true rfl) (Nat.le_of_ble_eq_true rfl) (Nat.le_of_ble_eq_true rfl) dX8_init_7 (fun q_1 H hP hD hS => ?_)
  have hP : va_P E.1 classes [(q0, .inr (8, [.null, .null, .null, .int 0])), (q_1, .inl (E.2.1, 20, .inl (fun _ => 0)))] H := hP
  have hD : va_D A [(q0, .inr (8, [.null, .null, .null, .int 0])), (q_1, .inl (E.2.1, 20, .inl (fun _ => 0)))] := hD
  refine pff_RX8_11 C hin hP hD hS 0 rfl (Nat.le_of_ble_eq_true rfl) dX8_init_9 (fun H locs hP hD hS => ?_)
  have hP : va_P E.1 classes [(q0, .inr (8, [.ref q_1, .null, .null, .int 0])), (q_1, .inl (E.2.1, 20, .inl (fun _ => 0)))] H := hP
  have hD : va_D A [(q0, .inr (8, [.ref q_1, .null, .null, .int 0])), (q_1, .inl (E.2.1, 20, .inl (fun _ => 0)))] := hD
  refine lv_aload_n hx hb dX8_init_12 rfl (lv_at hl 0 rfl) ?_
  refine lv_bipush (v := 20) hx hb dX8_init_13 (by decide) ?_
  refine n_newi C hP hD hS hA (by decide) (N := 20) (by decide) (Nat.le_of_ble_eq_true rfl) (Nat.le_of_ble_eq_true rfl) (Nat.le_of_ble_eq_true rfl) dX8_init_15 (fun q_2 H hP hD hS => ?_)
  have hP : va_P E.1 classes [(q0, .inr (8, [.ref q_1, .null, .null, .int 0])), (q_1, .inl (E.2.1, 20, .inl (fun _ => 0))), (q_2, .inl (E.2.1, 20, .inl (fun _ => 0)))] H := hP
  have hD : va_D A [(q0, .inr (8, [.ref q_1, .null, .null, .int 0])), (q_1, .inl (E.2.1, 20, .inl (fun _ => 0))), (q_2, .inl (E.2.1, 20, .inl (fun _ => 0)))] := hD
  refine pff_RX8_15 C hin hP hD hS 0 rfl (Nat.le_of_ble_eq_true rfl) dX8_init_17 (fun H locs hP hD hS => ?_)
  have hP : va_P E.1 classes [(q0, .inr (8, [.ref q_1, .ref q_2, .null, .int 0])), (q_1, .inl (E.2.1, 20, .inl (fun _ => 0))), (q_2, .inl (E.2.1, 20, .inl (fun _ => 0)))] H := hP
  have hD : va_D A [(q0, .inr (8, [.ref q_1, .ref q_2, .null, .int 0])), (q_1, .inl (E.2.1, 20, .inl (fun _ => 0))), (q_2, .inl (E.2.1, 20, .inl (fun _ => 0)))] := hD
  refine lv_aload_n hx hb dX8_init_20 rfl (lv_at hl 0 rfl) ?_
  refine lv_bipush (v := 31) hx hb dX8_init_21 (by decide) ?_
  refine n_newi C hP hD hS hA (by decide) (N := 31) (by decide) (Nat.le_of_ble_eq_true rfl) (Nat.le_of_ble_eq_true rfl) (Nat.le_of_ble_eq_true rfl) dX8_init_23 (fun q_3 H hP hD hS => ?_)
  have hP : va_P E.1 classes [(q0, .inr (8, [.ref q_1, .ref q_2, .null, .int 0])), (q_1, .inl (E.2.1, 20, .inl (fun _ => 0))), (q_2, .inl (E.2.1, 20, .inl (fun _ => 0))), (q_3, .inl (E.2.1, 31, .inl (fun _ => 0)))] H := hP
  have hD : va_D A [(q0, .inr (8, [.ref q_1, .ref q_2, .null, .int 0])), (q_1, .inl (E.2.1, 20, .inl (fun _ => 0))), (q_2, .inl (E.2.1, 20, .inl (fun _ => 0))), (q_3, .inl (E.2.1, 31, .inl (fun _ => 0)))] := hD
  refine pff_RX8_18 C hin hP hD hS 0 rfl (Nat.le_of_ble_eq_true rfl) dX8_init_25 (fun H locs hP hD hS => ?_)
  have hP : va_P E.1 classes [(q0, .inr (8, [.ref q_1, .ref q_2, .ref q_3, .int 0])), (q_1, .inl (E.2.1, 20, .inl (fun _ => 0))), (q_2, .inl (E.2.1, 20, .inl (fun _ => 0))), (q_3, .inl (E.2.1, 31, .inl (fun _ => 0)))] H := hP
  have hD : va_D A [(q0, .inr (8, [.ref q_1, .ref q_2, .ref q_3, .int 0])), (q_1, .inl (E.2.1, 20, .inl (fun _ => 0))), (q_2, .inl (E.2.1, 20, .inl (fun _ => 0))), (q_3, .inl (E.2.1, 31, .inl (fun _ => 0)))] := hD
  exact hret _ _ _ _ [q_1, q_2, q_3] dX8_init_28 hP hD hS
