theorem inT6 : ∀ w ∈ u_ws RX6 TX6 4, w ∈ Tg := by decide +kernel
theorem q133 : Cond.fieldLink RX6 19 "SnowForSummer$Text" "place" "I" ∈ Tg := Tg_mem 133 (by decide +kernel) (by decide +kernel)
theorem pf_RX6_19 {p : Program} {l : Launch} {e : Env} {R : Room} {s : State} {m : MethodId} {args : Array Value} {below : List Frame} {meth : Method} {c : Code} {H : Heap} {locs : List Loc} {cells slots : Nat} {Q : State → Prop} {E : ENV} {cc : ByteArray} {n : Nat} {r : Option FieldType} {pc : Nat} {ls : Array Slot} {rest : List Value} {a : Nat} {ws : va_W} {nm ds : String} {fs : List Value} {A : Nat → Prop} {H0 : Heap} {x : Int32} (C : Cx E A ⟨RX6, nm, ds⟩ cc n r p s m args meth c) (hP : va_P E.1 classes ws H) (hD : va_D A ws) (hS : va_S A H0 H locs) (q0 : Nat) (he : ws[q0]? = some (a, .inr (6, fs))) (hl : 2 < fs.length) (hdg : decode cc pc = .ok (.putfield 19, 3))
    (kk : ∀ (H1 : Heap) (locs1 : List Loc), va_P E.1 classes (ws.set q0 (a, .inr (6, fs.set 2 (.int x)))) H1 → va_D A (ws.set q0 (a, .inr (6, fs.set 2 (.int x)))) → va_S A H0 H1 locs1 → W p l e R s m args below meth c H1 locs1 cells slots Q (F0 m (pc + 3) ls rest)) : W p l e R s m args below meth c H locs cells slots Q (F0 m pc ls (.int x :: .ref a :: rest)) :=
  va_put (C := RX6) (T := TX6) (N := 4) (ty := .int) (Ts := wl ⟨RX6, nm, ds⟩ cc n r) C.1 C.2.1 C.2.2.2.2.1 (fun w h => List.mem_cons_of_mem _ (inT6 w h)) tyX6 tyX6_ok nmX6 C.2.2.2.1 C.2.2.2.2.2.1 hP hD hS q0 he rfl 2 (by decide) (C.2.2.2.2.1 _ (List.mem_cons_of_mem _ q133)) (fun _ h9 => h9) rfl (by decide +kernel) rfl rfl hl hdg kk
theorem q131 : Cond.fieldLink RX6 15 "SnowForSummer$Text" "length" "I" ∈ Tg := Tg_mem 131 (by decide +kernel) (by decide +kernel)
theorem gf_RX6_15 {p : Program} {l : Launch} {e : Env} {R : Room} {s : State} {m : MethodId} {args : Array Value} {below : List Frame} {meth : Method} {c : Code} {H : Heap} {locs : List Loc} {cells slots : Nat} {Q : State → Prop} {E : ENV} {cc : ByteArray} {n : Nat} {r : Option FieldType} {pc : Nat} {ls : Array Slot} {rest : List Value} {a : Nat} {ws : va_W} {nm ds : String} {fs : List Value} {A : Nat → Prop} {v : Value} (C : Cx E A ⟨RX6, nm, ds⟩ cc n r p s m args meth c) (hP : va_P E.1 classes ws H) (q0 : Nat) (he : ws[q0]? = some (a, .inr (6, fs))) (hv : fs[1]? = some v) (hdg : decode cc pc = .ok (.getfield 15, 3))
    (kk : W p l e R s m args below meth c H locs cells slots Q (F0 m (pc + 3) ls (v :: rest))) : W p l e R s m args below meth c H locs cells slots Q (F0 m pc ls (.ref a :: rest)) :=
  va_get (C := RX6) (T := TX6) (N := 4) (Ts := wl ⟨RX6, nm, ds⟩ cc n r) C.1 C.2.1 C.2.2.2.2.1 (fun w h => List.mem_cons_of_mem _ (inT6 w h)) C.2.2.2.1 C.2.2.2.2.2.1 hP q0 he rfl 1 (by decide) (C.2.2.2.2.1 _ (List.mem_cons_of_mem _ q131)) (fun _ h9 => h9) hv hdg kk
theorem q489 : Cond.methodLink RX6 22 Lib.Math.min.name ∈ Tg := Tg_mem 489 (by decide +kernel) (by decide +kernel)
theorem q134 : Cond.fieldLink RX6 28 "SnowForSummer$Text" "limit" "I" ∈ Tg := Tg_mem 134 (by decide +kernel) (by decide +kernel)
theorem pf_RX6_28 {p : Program} {l : Launch} {e : Env} {R : Room} {s : State} {m : MethodId} {args : Array Value} {below : List Frame} {meth : Method} {c : Code} {H : Heap} {locs : List Loc} {cells slots : Nat} {Q : State → Prop} {E : ENV} {cc : ByteArray} {n : Nat} {r : Option FieldType} {pc : Nat} {ls : Array Slot} {rest : List Value} {a : Nat} {ws : va_W} {nm ds : String} {fs : List Value} {A : Nat → Prop} {H0 : Heap} {x : Int32} (C : Cx E A ⟨RX6, nm, ds⟩ cc n r p s m args meth c) (hP : va_P E.1 classes ws H) (hD : va_D A ws) (hS : va_S A H0 H locs) (q0 : Nat) (he : ws[q0]? = some (a, .inr (6, fs))) (hl : 3 < fs.length) (hdg : decode cc pc = .ok (.putfield 28, 3))
    (kk : ∀ (H1 : Heap) (locs1 : List Loc), va_P E.1 classes (ws.set q0 (a, .inr (6, fs.set 3 (.int x)))) H1 → va_D A (ws.set q0 (a, .inr (6, fs.set 3 (.int x)))) → va_S A H0 H1 locs1 → W p l e R s m args below meth c H1 locs1 cells slots Q (F0 m (pc + 3) ls rest)) : W p l e R s m args below meth c H locs cells slots Q (F0 m pc ls (.int x :: .ref a :: rest)) :=
  va_put (C := RX6) (T := TX6) (N := 4) (ty := .int) (Ts := wl ⟨RX6, nm, ds⟩ cc n r) C.1 C.2.1 C.2.2.2.2.1 (fun w h => List.mem_cons_of_mem _ (inT6 w h)) tyX6 tyX6_ok nmX6 C.2.2.2.1 C.2.2.2.2.2.1 hP hD hS q0 he rfl 3 (by decide) (C.2.2.2.2.1 _ (List.mem_cons_of_mem _ q134)) (fun _ h9 => h9) rfl (by decide +kernel) rfl rfl hl hdg kk
theorem dX6_open_0 : decode cX6_open 0 = .ok (.aload_n 0, 1) := by decide +kernel
theorem dX6_open_1 : decode cX6_open 1 = .ok (.iconst 0, 1) := by decide +kernel
theorem dX6_open_2 : decode cX6_open 2 = .ok (.putfield 19, 3) := by decide +kernel
theorem dX6_open_5 : decode cX6_open 5 = .ok (.aload_n 0, 1) := by decide +kernel
theorem dX6_open_6 : decode cX6_open 6 = .ok (.aload_n 0, 1) := by decide +kernel
theorem dX6_open_7 : decode cX6_open 7 = .ok (.getfield 15, 3) := by decide +kernel
theorem dX6_open_10 : decode cX6_open 10 = .ok (.iload_n 1, 1) := by decide +kernel
theorem dX6_open_11 : decode cX6_open 11 = .ok (.invokestatic 22, 3) := by decide +kernel
theorem dX6_open_14 : decode cX6_open 14 = .ok (.putfield 28, 3) := by decide +kernel
theorem dX6_open_17 : decode cX6_open 17 = .ok (.return_, 1) := by decide +kernel
def WX6_open (E : ENV) (q0 : Nat) (q0_signs : Nat) (i_length : Int32) (i_place : Int32) (i_limit : Int32) : va_W := [(q0, .inr (6, [.ref q0_signs, .int i_length, .int i_place, .int i_limit]))]
set_option maxHeartbeats 4000000 in
set_option maxRecDepth 20000 in
theorem kX6_open (l : Launch) (E : ENV) (q0 : Nat) (q0_signs : Nat) (i_length : Int32) (i_place : Int32) (i_limit : Int32) (p1 : Int32) (i_place9 : Int32) (i_limit9 : Int32) (hf : fX6_open i_length i_place i_limit p1 = some (i_place9, i_limit9)) : CV l E yX6_open cX6_open 2 1 [.ref q0, .int p1] (WX6_open E q0 q0_signs i_length i_place i_limit) (WX6_open E q0 q0_signs i_length i_place9 i_limit9) := by
  refine begV (by decide +kernel) (Nat.le_of_ble_eq_true rfl) ?_
  intro p e s m args below meth c A Q C hA hret
  have hx := C.1
  have hb := C.2.1
  intro H locs ls hl hP hD hS
  have hl : lv_has ls 2 [(0, .ref q0), (1, .int p1)] := hl
  unfold fX6_open at hf
  refine lv_aload_n hx hb dX6_open_0 rfl (lv_at hl 0 rfl) ?_
  refine lv_iconst (v := 0) hx hb dX6_open_1 (by decide) ?_
  refine pf_RX6_19 C hP hD hS 0 rfl (Nat.le_of_ble_eq_true rfl) dX6_open_2 (fun H locs hP hD hS => ?_)
  have hP : va_P E.1 classes (WX6_open E q0 q0_signs i_length 0 i_limit) H := hP
  have hD : va_D A (WX6_open E q0 q0_signs i_length 0 i_limit) := hD
  refine lv_aload_n hx hb dX6_open_5 rfl (lv_at hl 0 rfl) ?_
  refine lv_aload_n hx hb dX6_open_6 rfl (lv_at hl 0 rfl) ?_
  refine gf_RX6_15 C hP 0 rfl rfl dX6_open_7 ?_
  refine lv_iload_n hx hb dX6_open_10 rfl (lv_at hl 1 rfl) ?_
  refine r_min C q489 (Nat.le_of_ble_eq_true rfl) hl.1 (Nat.le_of_ble_eq_true rfl) dX6_open_11 ?_
  refine pf_RX6_28 C hP hD hS 0 rfl (Nat.le_of_ble_eq_true rfl) dX6_open_14 (fun H locs hP hD hS => ?_)
  have hP : va_P E.1 classes (WX6_open E q0 q0_signs i_length 0 ((mn i_length p1))) H := hP
  have hD : va_D A (WX6_open E q0 q0_signs i_length 0 ((mn i_length p1))) := hD
  have hj0 := Option.some.inj hf
  obtain ⟨ha0, hj1⟩ := Prod.mk.inj hj0
  subst ha0
  subst hj1
  exact hret _ _ _ _ dX6_open_17 hP hD hS
theorem gf_RX6_19 {p : Program} {l : Launch} {e : Env} {R : Room} {s : State} {m : MethodId} {args : Array Value} {below : List Frame} {meth : Method} {c : Code} {H : Heap} {locs : List Loc} {cells slots : Nat} {Q : State → Prop} {E : ENV} {cc : ByteArray} {n : Nat} {r : Option FieldType} {pc : Nat} {ls : Array Slot} {rest : List Value} {a : Nat} {ws : va_W} {nm ds : String} {fs : List Value} {A : Nat → Prop} {v : Value} (C : Cx E A ⟨RX6, nm, ds⟩ cc n r p s m args meth c) (hP : va_P E.1 classes ws H) (q0 : Nat) (he : ws[q0]? = some (a, .inr (6, fs))) (hv : fs[2]? = some v) (hdg : decode cc pc = .ok (.getfield 19, 3))
    (kk : W p l e R s m args below meth c H locs cells slots Q (F0 m (pc + 3) ls (v :: rest))) : W p l e R s m args below meth c H locs cells slots Q (F0 m pc ls (.ref a :: rest)) :=
  va_get (C := RX6) (T := TX6) (N := 4) (Ts := wl ⟨RX6, nm, ds⟩ cc n r) C.1 C.2.1 C.2.2.2.2.1 (fun w h => List.mem_cons_of_mem _ (inT6 w h)) C.2.2.2.1 C.2.2.2.2.2.1 hP q0 he rfl 2 (by decide) (C.2.2.2.2.1 _ (List.mem_cons_of_mem _ q133)) (fun _ h9 => h9) hv hdg kk
theorem dX6_isThrough_0 : decode cX6_isThrough 0 = .ok (.aload_n 0, 1) := by decide +kernel
theorem dX6_isThrough_1 : decode cX6_isThrough 1 = .ok (.getfield 19, 3) := by decide +kernel
theorem dX6_isThrough_4 : decode cX6_isThrough 4 = .ok (.aload_n 0, 1) := by decide +kernel
theorem dX6_isThrough_5 : decode cX6_isThrough 5 = .ok (.getfield 15, 3) := by decide +kernel
theorem dX6_isThrough_8 : decode cX6_isThrough 8 = .ok (.if_icmp .ne 7, 3) := by decide +kernel
theorem dX6_isThrough_11 : decode cX6_isThrough 11 = .ok (.iconst 1, 1) := by decide +kernel
theorem dX6_isThrough_12 : decode cX6_isThrough 12 = .ok (.goto 4, 3) := by decide +kernel
theorem dX6_isThrough_15 : decode cX6_isThrough 15 = .ok (.iconst 0, 1) := by decide +kernel
theorem dX6_isThrough_16 : decode cX6_isThrough 16 = .ok (.ireturn, 1) := by decide +kernel
def WX6_isThrough (E : ENV) (q0 : Nat) (q0_signs : Nat) (i_length : Int32) (i_place : Int32) (i_limit : Int32) : va_W := [(q0, .inr (6, [.ref q0_signs, .int i_length, .int i_place, .int i_limit]))]
set_option maxHeartbeats 4000000 in
set_option maxRecDepth 20000 in
theorem kX6_isThrough (l : Launch) (E : ENV) (q0 : Nat) (q0_signs : Nat) (i_length : Int32) (i_place : Int32) (i_limit : Int32) (r9 : Int32) (hf : fX6_isThrough i_length i_place = some r9) : CI l E yX6_isThrough cX6_isThrough 1 (some .boolean) 0 [.ref q0] (WX6_isThrough E q0 q0_signs i_length i_place i_limit) (WX6_isThrough E q0 q0_signs i_length i_place i_limit) r9 := by
  refine begI (by decide +kernel) (Nat.le_of_ble_eq_true rfl) ?_
  intro p e s m args below meth c A Q C hA hret
  have hx := C.1
  have hb := C.2.1
  intro H locs ls hl hP hD hS
  have hl : lv_has ls 1 [(0, .ref q0)] := hl
  unfold fX6_isThrough at hf
  refine lv_aload_n hx hb dX6_isThrough_0 rfl (lv_at hl 0 rfl) ?_
  refine gf_RX6_19 C hP 0 rfl rfl dX6_isThrough_1 ?_
  refine lv_aload_n hx hb dX6_isThrough_4 rfl (lv_at hl 0 rfl) ?_
  refine gf_RX6_15 C hP 0 rfl rfl dX6_isThrough_5 ?_
  refine lv_icmp_ne (tgt := 15) hx hb dX6_isThrough_8 (by decide) (fun c1 => ?_) (fun c1 => ?_)
  · rw [if_neg c1] at hf
    refine lv_iconst (v := 0) hx hb dX6_isThrough_15 (by decide) ?_
    have hj0 := Option.some.inj hf
    subst hj0
    exact hret _ _ _ _ dX6_isThrough_16 rfl hP hD hS
  · rw [if_pos c1] at hf
    refine lv_iconst (v := 1) hx hb dX6_isThrough_11 (by decide) ?_
    refine lv_goto (tgt := 16) hx hb dX6_isThrough_12 (by decide) ?_
    have hj0 := Option.some.inj hf
    subst hj0
    exact hret _ _ _ _ dX6_isThrough_16 rfl hP hD hS
theorem gf_RX6_28 {p : Program} {l : Launch} {e : Env} {R : Room} {s : State} {m : MethodId} {args : Array Value} {below : List Frame} {meth : Method} {c : Code} {H : Heap} {locs : List Loc} {cells slots : Nat} {Q : State → Prop} {E : ENV} {cc : ByteArray} {n : Nat} {r : Option FieldType} {pc : Nat} {ls : Array Slot} {rest : List Value} {a : Nat} {ws : va_W} {nm ds : String} {fs : List Value} {A : Nat → Prop} {v : Value} (C : Cx E A ⟨RX6, nm, ds⟩ cc n r p s m args meth c) (hP : va_P E.1 classes ws H) (q0 : Nat) (he : ws[q0]? = some (a, .inr (6, fs))) (hv : fs[3]? = some v) (hdg : decode cc pc = .ok (.getfield 28, 3))
    (kk : W p l e R s m args below meth c H locs cells slots Q (F0 m (pc + 3) ls (v :: rest))) : W p l e R s m args below meth c H locs cells slots Q (F0 m pc ls (.ref a :: rest)) :=
  va_get (C := RX6) (T := TX6) (N := 4) (Ts := wl ⟨RX6, nm, ds⟩ cc n r) C.1 C.2.1 C.2.2.2.2.1 (fun w h => List.mem_cons_of_mem _ (inT6 w h)) C.2.2.2.1 C.2.2.2.2.2.1 hP q0 he rfl 3 (by decide) (C.2.2.2.2.1 _ (List.mem_cons_of_mem _ q134)) (fun _ h9 => h9) hv hdg kk
theorem q130 : Cond.fieldLink RX6 11 "SnowForSummer$Text" "signs" "[I" ∈ Tg := Tg_mem 130 (by decide +kernel) (by decide +kernel)
theorem gf_RX6_11 {p : Program} {l : Launch} {e : Env} {R : Room} {s : State} {m : MethodId} {args : Array Value} {below : List Frame} {meth : Method} {c : Code} {H : Heap} {locs : List Loc} {cells slots : Nat} {Q : State → Prop} {E : ENV} {cc : ByteArray} {n : Nat} {r : Option FieldType} {pc : Nat} {ls : Array Slot} {rest : List Value} {a : Nat} {ws : va_W} {nm ds : String} {fs : List Value} {A : Nat → Prop} {v : Value} (C : Cx E A ⟨RX6, nm, ds⟩ cc n r p s m args meth c) (hP : va_P E.1 classes ws H) (q0 : Nat) (he : ws[q0]? = some (a, .inr (6, fs))) (hv : fs[0]? = some v) (hdg : decode cc pc = .ok (.getfield 11, 3))
    (kk : W p l e R s m args below meth c H locs cells slots Q (F0 m (pc + 3) ls (v :: rest))) : W p l e R s m args below meth c H locs cells slots Q (F0 m pc ls (.ref a :: rest)) :=
  va_get (C := RX6) (T := TX6) (N := 4) (Ts := wl ⟨RX6, nm, ds⟩ cc n r) C.1 C.2.1 C.2.2.2.2.1 (fun w h => List.mem_cons_of_mem _ (inT6 w h)) C.2.2.2.1 C.2.2.2.2.2.1 hP q0 he rfl 0 (by decide) (C.2.2.2.2.1 _ (List.mem_cons_of_mem _ q130)) (fun _ h9 => h9) hv hdg kk
theorem dX6_peek_0 : decode cX6_peek 0 = .ok (.aload_n 0, 1) := by decide +kernel
theorem dX6_peek_1 : decode cX6_peek 1 = .ok (.getfield 19, 3) := by decide +kernel
theorem dX6_peek_4 : decode cX6_peek 4 = .ok (.aload_n 0, 1) := by decide +kernel
theorem dX6_peek_5 : decode cX6_peek 5 = .ok (.getfield 28, 3) := by decide +kernel
theorem dX6_peek_8 : decode cX6_peek 8 = .ok (.if_icmp .ge 24, 3) := by decide +kernel
theorem dX6_peek_11 : decode cX6_peek 11 = .ok (.aload_n 0, 1) := by decide +kernel
theorem dX6_peek_12 : decode cX6_peek 12 = .ok (.getfield 19, 3) := by decide +kernel
theorem dX6_peek_15 : decode cX6_peek 15 = .ok (.bipush 80, 2) := by decide +kernel
theorem dX6_peek_17 : decode cX6_peek 17 = .ok (.if_icmp .ge 15, 3) := by decide +kernel
theorem dX6_peek_20 : decode cX6_peek 20 = .ok (.aload_n 0, 1) := by decide +kernel
theorem dX6_peek_21 : decode cX6_peek 21 = .ok (.getfield 11, 3) := by decide +kernel
theorem dX6_peek_24 : decode cX6_peek 24 = .ok (.aload_n 0, 1) := by decide +kernel
theorem dX6_peek_25 : decode cX6_peek 25 = .ok (.getfield 19, 3) := by decide +kernel
theorem dX6_peek_28 : decode cX6_peek 28 = .ok (.iaload, 1) := by decide +kernel
theorem dX6_peek_29 : decode cX6_peek 29 = .ok (.goto 4, 3) := by decide +kernel
theorem dX6_peek_32 : decode cX6_peek 32 = .ok (.iconst (-1), 1) := by decide +kernel
theorem dX6_peek_33 : decode cX6_peek 33 = .ok (.ireturn, 1) := by decide +kernel
def WX6_peek (E : ENV) (q0 : Nat) (q0_signs : Nat) (i_length : Int32) (i_place : Int32) (i_limit : Int32) (a_signs : Nat → Int32) : va_W := [(q0, .inr (6, [.ref q0_signs, .int i_length, .int i_place, .int i_limit])), (q0_signs, .inl (E.2.1, 80, .inl a_signs))]
set_option maxHeartbeats 4000000 in
set_option maxRecDepth 20000 in
theorem kX6_peek (l : Launch) (E : ENV) (q0 : Nat) (q0_signs : Nat) (i_length : Int32) (i_place : Int32) (i_limit : Int32) (a_signs : Nat → Int32) (r9 : Int32) (hf : fX6_peek i_place i_limit a_signs = some r9) : CI l E yX6_peek cX6_peek 1 (some .int) 0 [.ref q0] (WX6_peek E q0 q0_signs i_length i_place i_limit a_signs) (WX6_peek E q0 q0_signs i_length i_place i_limit a_signs) r9 := by
  refine begI (by decide +kernel) (Nat.le_of_ble_eq_true rfl) ?_
  intro p e s m args below meth c A Q C hA hret
  have hx := C.1
  have hb := C.2.1
  intro H locs ls hl hP hD hS
  have hl : lv_has ls 1 [(0, .ref q0)] := hl
  unfold fX6_peek at hf
  refine lv_aload_n hx hb dX6_peek_0 rfl (lv_at hl 0 rfl) ?_
  refine gf_RX6_19 C hP 0 rfl rfl dX6_peek_1 ?_
  refine lv_aload_n hx hb dX6_peek_4 rfl (lv_at hl 0 rfl) ?_
  refine gf_RX6_28 C hP 0 rfl rfl dX6_peek_5 ?_
  refine lv_icmp_ge (tgt := 32) hx hb dX6_peek_8 (by decide) (fun c1 => ?_) (fun c1 => ?_)
  · rw [if_pos c1] at hf
    refine lv_iconst (v := (-1)) hx hb dX6_peek_32 (by decide) ?_
    have hj0 := Option.some.inj hf
    subst hj0
    exact hret _ _ _ _ dX6_peek_33 rfl hP hD hS
  · rw [if_neg c1] at hf
    refine lv_aload_n hx hb dX6_peek_11 rfl (lv_at hl 0 rfl) ?_
    refine gf_RX6_19 C hP 0 rfl rfl dX6_peek_12 ?_
    refine lv_bipush (v := 80) hx hb dX6_peek_15 (by decide) ?_
    refine lv_icmp_ge (tgt := 32) hx hb dX6_peek_17 (by decide) (fun c2 => ?_) (fun c2 => ?_)
    · rw [if_pos c2] at hf
      refine lv_iconst (v := (-1)) hx hb dX6_peek_32 (by decide) ?_
      have hj0 := Option.some.inj hf
      subst hj0
      exact hret _ _ _ _ dX6_peek_33 rfl hP hD hS
    · rw [if_neg c2] at hf
      refine lv_aload_n hx hb dX6_peek_20 rfl (lv_at hl 0 rfl) ?_
      refine gf_RX6_11 C hP 0 rfl rfl dX6_peek_21 ?_
      refine lv_aload_n hx hb dX6_peek_24 rfl (lv_at hl 0 rfl) ?_
      refine gf_RX6_19 C hP 0 rfl rfl dX6_peek_25 ?_
      obtain ⟨g3, hf⟩ := gd_some hf
      refine va_iald hx hb C.2.2.2.2.2.1 hP 1 0 rfl rfl (vin_in g3) dX6_peek_28 ?_
      refine lv_goto (tgt := 33) hx hb dX6_peek_29 (by decide) ?_
      have hj0 := Option.some.inj hf
      subst hj0
      exact hret _ _ _ _ dX6_peek_33 rfl hP hD hS
theorem dX6_skip_0 : decode cX6_skip 0 = .ok (.aload_n 0, 1) := by decide +kernel
theorem dX6_skip_1 : decode cX6_skip 1 = .ok (.dup, 1) := by decide +kernel
theorem dX6_skip_2 : decode cX6_skip 2 = .ok (.getfield 19, 3) := by decide +kernel
theorem dX6_skip_5 : decode cX6_skip 5 = .ok (.iconst 1, 1) := by decide +kernel
theorem dX6_skip_6 : decode cX6_skip 6 = .ok (.iadd, 1) := by decide +kernel
theorem dX6_skip_7 : decode cX6_skip 7 = .ok (.putfield 19, 3) := by decide +kernel
theorem dX6_skip_10 : decode cX6_skip 10 = .ok (.return_, 1) := by decide +kernel
def WX6_skip (E : ENV) (q0 : Nat) (q0_signs : Nat) (i_length : Int32) (i_place : Int32) (i_limit : Int32) : va_W := [(q0, .inr (6, [.ref q0_signs, .int i_length, .int i_place, .int i_limit]))]
set_option maxHeartbeats 4000000 in
set_option maxRecDepth 20000 in
theorem kX6_skip (l : Launch) (E : ENV) (q0 : Nat) (q0_signs : Nat) (i_length : Int32) (i_place : Int32) (i_limit : Int32) (i_place9 : Int32) (hf : fX6_skip i_place = some i_place9) : CV l E yX6_skip cX6_skip 1 0 [.ref q0] (WX6_skip E q0 q0_signs i_length i_place i_limit) (WX6_skip E q0 q0_signs i_length i_place9 i_limit) := by
  refine begV (by decide +kernel) (Nat.le_of_ble_eq_true rfl) ?_
  intro p e s m args below meth c A Q C hA hret
  have hx := C.1
  have hb := C.2.1
  intro H locs ls hl hP hD hS
  have hl : lv_has ls 1 [(0, .ref q0)] := hl
  unfold fX6_skip at hf
  refine lv_aload_n hx hb dX6_skip_0 rfl (lv_at hl 0 rfl) ?_
  refine lv_dup hx hb dX6_skip_1 rfl ?_
  refine gf_RX6_19 C hP 0 rfl rfl dX6_skip_2 ?_
  refine lv_iconst (v := 1) hx hb dX6_skip_5 (by decide) ?_
  refine lv_iadd hx hb dX6_skip_6 ?_
  refine pf_RX6_19 C hP hD hS 0 rfl (Nat.le_of_ble_eq_true rfl) dX6_skip_7 (fun H locs hP hD hS => ?_)
  have hP : va_P E.1 classes (WX6_skip E q0 q0_signs i_length ((i_place + 1)) i_limit) H := hP
  have hD : va_D A (WX6_skip E q0 q0_signs i_length ((i_place + 1)) i_limit) := hD
  have hj0 := Option.some.inj hf
  subst hj0
  exact hret _ _ _ _ dX6_skip_10 hP hD hS
theorem K_RX6_31 : KV RX6 31 yX6_peek cX6_peek 1 (some .int) 0 := ⟨Tg_mem 511 (by decide +kernel) (by decide +kernel), Tg_mem 91 (by decide +kernel) (by decide +kernel), Tg_mem 508 (by decide +kernel) (by decide +kernel), Tg_mem 509 (by decide +kernel) (by decide +kernel), Tg_mem 510 (by decide +kernel) (by decide +kernel), by decide +kernel⟩
theorem dX6_takeDigit_0 : decode cX6_takeDigit 0 = .ok (.aload_n 0, 1) := by decide +kernel
theorem dX6_takeDigit_1 : decode cX6_takeDigit 1 = .ok (.invokevirtual 31, 3) := by decide +kernel
theorem dX6_takeDigit_4 : decode cX6_takeDigit 4 = .ok (.bipush 48, 2) := by decide +kernel
theorem dX6_takeDigit_6 : decode cX6_takeDigit 6 = .ok (.isub, 1) := by decide +kernel
theorem dX6_takeDigit_7 : decode cX6_takeDigit 7 = .ok (.istore_n 3, 1) := by decide +kernel
theorem dX6_takeDigit_8 : decode cX6_takeDigit 8 = .ok (.iload_n 3, 1) := by decide +kernel
theorem dX6_takeDigit_9 : decode cX6_takeDigit 9 = .ok (.iload_n 1, 1) := by decide +kernel
theorem dX6_takeDigit_10 : decode cX6_takeDigit 10 = .ok (.if_icmp .lt 8, 3) := by decide +kernel
theorem dX6_takeDigit_13 : decode cX6_takeDigit 13 = .ok (.iload_n 3, 1) := by decide +kernel
theorem dX6_takeDigit_14 : decode cX6_takeDigit 14 = .ok (.iload_n 2, 1) := by decide +kernel
theorem dX6_takeDigit_15 : decode cX6_takeDigit 15 = .ok (.if_icmp .le 5, 3) := by decide +kernel
theorem dX6_takeDigit_18 : decode cX6_takeDigit 18 = .ok (.iconst (-1), 1) := by decide +kernel
theorem dX6_takeDigit_19 : decode cX6_takeDigit 19 = .ok (.ireturn, 1) := by decide +kernel
theorem dX6_takeDigit_20 : decode cX6_takeDigit 20 = .ok (.aload_n 0, 1) := by decide +kernel
theorem dX6_takeDigit_21 : decode cX6_takeDigit 21 = .ok (.dup, 1) := by decide +kernel
theorem dX6_takeDigit_22 : decode cX6_takeDigit 22 = .ok (.getfield 19, 3) := by decide +kernel
theorem dX6_takeDigit_25 : decode cX6_takeDigit 25 = .ok (.iconst 1, 1) := by decide +kernel
theorem dX6_takeDigit_26 : decode cX6_takeDigit 26 = .ok (.iadd, 1) := by decide +kernel
theorem dX6_takeDigit_27 : decode cX6_takeDigit 27 = .ok (.putfield 19, 3) := by decide +kernel
theorem dX6_takeDigit_30 : decode cX6_takeDigit 30 = .ok (.iload_n 3, 1) := by decide +kernel
theorem dX6_takeDigit_31 : decode cX6_takeDigit 31 = .ok (.ireturn, 1) := by decide +kernel
def WX6_takeDigit (E : ENV) (q0 : Nat) (q0_signs : Nat) (i_length : Int32) (i_place : Int32) (i_limit : Int32) (a_signs : Nat → Int32) : va_W := [(q0, .inr (6, [.ref q0_signs, .int i_length, .int i_place, .int i_limit])), (q0_signs, .inl (E.2.1, 80, .inl a_signs))]
set_option maxHeartbeats 4000000 in
set_option maxRecDepth 20000 in
theorem kX6_takeDigit (l : Launch) (E : ENV) (q0 : Nat) (q0_signs : Nat) (i_length : Int32) (i_place : Int32) (i_limit : Int32) (a_signs : Nat → Int32) (p1 : Int32) (p2 : Int32) (r9 : Int32) (i_place9 : Int32) (hf : fX6_takeDigit i_place i_limit a_signs p1 p2 = some (r9, i_place9)) : CI l E yX6_takeDigit cX6_takeDigit 4 (some .int) 1 [.ref q0, .int p1, .int p2] (WX6_takeDigit E q0 q0_signs i_length i_place i_limit a_signs) (WX6_takeDigit E q0 q0_signs i_length i_place9 i_limit a_signs) r9 := by
  refine begI (by decide +kernel) (Nat.le_of_ble_eq_true rfl) ?_
  intro p e s m args below meth c A Q C hA hret
  have hx := C.1
  have hb := C.2.1
  intro H locs ls hl hP hD hS
  have hl : lv_has ls 4 [(0, .ref q0), (1, .int p1), (2, .int p2)] := hl
  unfold fX6_takeDigit at hf
  refine lv_aload_n hx hb dX6_takeDigit_0 rfl (lv_at hl 0 rfl) ?_
  obtain ⟨o1, hg2, hf⟩ := bd_some hf
  refine k_VI (As := []) C K_RX6_31 (Nat.le_of_ble_eq_true rfl) (Nat.le_of_ble_eq_true rfl) (kX6_peek l E q0 q0_signs i_length i_place i_limit a_signs o1 hg2) [0, 1] rfl rfl rfl (ci := 6) rfl rfl (q0 := 0) rfl hP hD hS hA hl.1 (Nat.le_of_ble_eq_true rfl) rfl dX6_takeDigit_1 (fun H locs hP hD hS => ?_)
  have hP : va_P E.1 classes (WX6_takeDigit E q0 q0_signs i_length i_place i_limit a_signs) H := hP
  have hD : va_D A (WX6_takeDigit E q0 q0_signs i_length i_place i_limit a_signs) := hD
  refine lv_bipush (v := 48) hx hb dX6_takeDigit_4 (by decide) ?_
  refine lv_isub hx hb dX6_takeDigit_6 ?_
  refine lv_istore_n (lv' := [(3, .int ((o1 - 48))), (0, .ref q0), (1, .int p1), (2, .int p2)]) hx hb dX6_takeDigit_7 rfl hl (by decide) rfl (fun ls hl => ?_)
  refine lv_iload_n hx hb dX6_takeDigit_8 rfl (lv_at hl 0 rfl) ?_
  refine lv_iload_n hx hb dX6_takeDigit_9 rfl (lv_at hl 2 rfl) ?_
  refine lv_icmp_lt (tgt := 18) hx hb dX6_takeDigit_10 (by decide) (fun c3 => ?_) (fun c3 => ?_)
  · rw [if_pos c3] at hf
    refine lv_iconst (v := (-1)) hx hb dX6_takeDigit_18 (by decide) ?_
    have hj0 := Option.some.inj hf
    obtain ⟨ha0, hj1⟩ := Prod.mk.inj hj0
    subst ha0
    subst hj1
    exact hret _ _ _ _ dX6_takeDigit_19 rfl hP hD hS
  · rw [if_neg c3] at hf
    refine lv_iload_n hx hb dX6_takeDigit_13 rfl (lv_at hl 0 rfl) ?_
    refine lv_iload_n hx hb dX6_takeDigit_14 rfl (lv_at hl 3 rfl) ?_
    refine lv_icmp_le (tgt := 20) hx hb dX6_takeDigit_15 (by decide) (fun c4 => ?_) (fun c4 => ?_)
    · rw [if_pos c4] at hf
      refine lv_aload_n hx hb dX6_takeDigit_20 rfl (lv_at hl 1 rfl) ?_
      refine lv_dup hx hb dX6_takeDigit_21 rfl ?_
      refine gf_RX6_19 C hP 0 rfl rfl dX6_takeDigit_22 ?_
      refine lv_iconst (v := 1) hx hb dX6_takeDigit_25 (by decide) ?_
      refine lv_iadd hx hb dX6_takeDigit_26 ?_
      refine pf_RX6_19 C hP hD hS 0 rfl (Nat.le_of_ble_eq_true rfl) dX6_takeDigit_27 (fun H locs hP hD hS => ?_)
      have hP : va_P E.1 classes (WX6_takeDigit E q0 q0_signs i_length ((i_place + 1)) i_limit a_signs) H := hP
      have hD : va_D A (WX6_takeDigit E q0 q0_signs i_length ((i_place + 1)) i_limit a_signs) := hD
      refine lv_iload_n hx hb dX6_takeDigit_30 rfl (lv_at hl 0 rfl) ?_
      have hj0 := Option.some.inj hf
      obtain ⟨ha0, hj1⟩ := Prod.mk.inj hj0
      subst ha0
      subst hj1
      exact hret _ _ _ _ dX6_takeDigit_31 rfl hP hD hS
    · rw [if_neg c4] at hf
      refine lv_iconst (v := (-1)) hx hb dX6_takeDigit_18 (by decide) ?_
      have hj0 := Option.some.inj hf
      obtain ⟨ha0, hj1⟩ := Prod.mk.inj hj0
      subst ha0
      subst hj1
      exact hret _ _ _ _ dX6_takeDigit_19 rfl hP hD hS
theorem dX6_take_0 : decode cX6_take 0 = .ok (.aload_n 0, 1) := by decide +kernel
theorem dX6_take_1 : decode cX6_take 1 = .ok (.invokevirtual 31, 3) := by decide +kernel
theorem dX6_take_4 : decode cX6_take 4 = .ok (.iload_n 1, 1) := by decide +kernel
theorem dX6_take_5 : decode cX6_take 5 = .ok (.if_icmp .eq 5, 3) := by decide +kernel
theorem dX6_take_8 : decode cX6_take 8 = .ok (.iconst 0, 1) := by decide +kernel
theorem dX6_take_9 : decode cX6_take 9 = .ok (.ireturn, 1) := by decide +kernel
theorem dX6_take_10 : decode cX6_take 10 = .ok (.aload_n 0, 1) := by decide +kernel
theorem dX6_take_11 : decode cX6_take 11 = .ok (.dup, 1) := by decide +kernel
theorem dX6_take_12 : decode cX6_take 12 = .ok (.getfield 19, 3) := by decide +kernel
theorem dX6_take_15 : decode cX6_take 15 = .ok (.iconst 1, 1) := by decide +kernel
theorem dX6_take_16 : decode cX6_take 16 = .ok (.iadd, 1) := by decide +kernel
theorem dX6_take_17 : decode cX6_take 17 = .ok (.putfield 19, 3) := by decide +kernel
theorem dX6_take_20 : decode cX6_take 20 = .ok (.iconst 1, 1) := by decide +kernel
theorem dX6_take_21 : decode cX6_take 21 = .ok (.ireturn, 1) := by decide +kernel
def WX6_take (E : ENV) (q0 : Nat) (q0_signs : Nat) (i_length : Int32) (i_place : Int32) (i_limit : Int32) (a_signs : Nat → Int32) : va_W := [(q0, .inr (6, [.ref q0_signs, .int i_length, .int i_place, .int i_limit])), (q0_signs, .inl (E.2.1, 80, .inl a_signs))]
set_option maxHeartbeats 4000000 in
set_option maxRecDepth 20000 in
theorem kX6_take (l : Launch) (E : ENV) (q0 : Nat) (q0_signs : Nat) (i_length : Int32) (i_place : Int32) (i_limit : Int32) (a_signs : Nat → Int32) (p1 : Int32) (r9 : Int32) (i_place9 : Int32) (hf : fX6_take i_place i_limit a_signs p1 = some (r9, i_place9)) : CI l E yX6_take cX6_take 2 (some .boolean) 1 [.ref q0, .int p1] (WX6_take E q0 q0_signs i_length i_place i_limit a_signs) (WX6_take E q0 q0_signs i_length i_place9 i_limit a_signs) r9 := by
  refine begI (by decide +kernel) (Nat.le_of_ble_eq_true rfl) ?_
  intro p e s m args below meth c A Q C hA hret
  have hx := C.1
  have hb := C.2.1
  intro H locs ls hl hP hD hS
  have hl : lv_has ls 2 [(0, .ref q0), (1, .int p1)] := hl
  unfold fX6_take at hf
  refine lv_aload_n hx hb dX6_take_0 rfl (lv_at hl 0 rfl) ?_
  obtain ⟨o1, hg2, hf⟩ := bd_some hf
  refine k_VI (As := []) C K_RX6_31 (Nat.le_of_ble_eq_true rfl) (Nat.le_of_ble_eq_true rfl) (kX6_peek l E q0 q0_signs i_length i_place i_limit a_signs o1 hg2) [0, 1] rfl rfl rfl (ci := 6) rfl rfl (q0 := 0) rfl hP hD hS hA hl.1 (Nat.le_of_ble_eq_true rfl) rfl dX6_take_1 (fun H locs hP hD hS => ?_)
  have hP : va_P E.1 classes (WX6_take E q0 q0_signs i_length i_place i_limit a_signs) H := hP
  have hD : va_D A (WX6_take E q0 q0_signs i_length i_place i_limit a_signs) := hD
  refine lv_iload_n hx hb dX6_take_4 rfl (lv_at hl 1 rfl) ?_
  refine lv_icmp_eq (tgt := 10) hx hb dX6_take_5 (by decide) (fun c3 => ?_) (fun c3 => ?_)
  · rw [if_pos c3] at hf
    refine lv_aload_n hx hb dX6_take_10 rfl (lv_at hl 0 rfl) ?_
    refine lv_dup hx hb dX6_take_11 rfl ?_
    refine gf_RX6_19 C hP 0 rfl rfl dX6_take_12 ?_
    refine lv_iconst (v := 1) hx hb dX6_take_15 (by decide) ?_
    refine lv_iadd hx hb dX6_take_16 ?_
    refine pf_RX6_19 C hP hD hS 0 rfl (Nat.le_of_ble_eq_true rfl) dX6_take_17 (fun H locs hP hD hS => ?_)
    have hP : va_P E.1 classes (WX6_take E q0 q0_signs i_length ((i_place + 1)) i_limit a_signs) H := hP
    have hD : va_D A (WX6_take E q0 q0_signs i_length ((i_place + 1)) i_limit a_signs) := hD
    refine lv_iconst (v := 1) hx hb dX6_take_20 (by decide) ?_
    have hj0 := Option.some.inj hf
    obtain ⟨ha0, hj1⟩ := Prod.mk.inj hj0
    subst ha0
    subst hj1
    exact hret _ _ _ _ dX6_take_21 rfl hP hD hS
  · rw [if_neg c3] at hf
    refine lv_iconst (v := 0) hx hb dX6_take_8 (by decide) ?_
    have hj0 := Option.some.inj hf
    obtain ⟨ha0, hj1⟩ := Prod.mk.inj hj0
    subst ha0
    subst hj1
    exact hret _ _ _ _ dX6_take_9 rfl hP hD hS
theorem K_RX6_35 : KV RX6 35 yX6_takeDigit cX6_takeDigit 4 (some .int) 2 := ⟨Tg_mem 507 (by decide +kernel) (by decide +kernel), Tg_mem 91 (by decide +kernel) (by decide +kernel), Tg_mem 504 (by decide +kernel) (by decide +kernel), Tg_mem 505 (by decide +kernel) (by decide +kernel), Tg_mem 506 (by decide +kernel) (by decide +kernel), by decide +kernel⟩
theorem dX6_takeNumber_0 : decode cX6_takeNumber 0 = .ok (.aload_n 0, 1) := by decide +kernel
theorem dX6_takeNumber_1 : decode cX6_takeNumber 1 = .ok (.iconst 0, 1) := by decide +kernel
theorem dX6_takeNumber_2 : decode cX6_takeNumber 2 = .ok (.bipush 9, 2) := by decide +kernel
theorem dX6_takeNumber_4 : decode cX6_takeNumber 4 = .ok (.invokevirtual 35, 3) := by decide +kernel
theorem dX6_takeNumber_7 : decode cX6_takeNumber 7 = .ok (.istore_n 2, 1) := by decide +kernel
theorem dX6_takeNumber_8 : decode cX6_takeNumber 8 = .ok (.iconst 1, 1) := by decide +kernel
theorem dX6_takeNumber_9 : decode cX6_takeNumber 9 = .ok (.istore_n 3, 1) := by decide +kernel
theorem dX6_takeNumber_10 : decode cX6_takeNumber 10 = .ok (.iload_n 3, 1) := by decide +kernel
theorem dX6_takeNumber_11 : decode cX6_takeNumber 11 = .ok (.iload_n 1, 1) := by decide +kernel
theorem dX6_takeNumber_12 : decode cX6_takeNumber 12 = .ok (.if_icmp .ge 37, 3) := by decide +kernel
theorem dX6_takeNumber_15 : decode cX6_takeNumber 15 = .ok (.iload_n 2, 1) := by decide +kernel
theorem dX6_takeNumber_16 : decode cX6_takeNumber 16 = .ok (.ifCond .lt 33, 3) := by decide +kernel
theorem dX6_takeNumber_19 : decode cX6_takeNumber 19 = .ok (.aload_n 0, 1) := by decide +kernel
theorem dX6_takeNumber_20 : decode cX6_takeNumber 20 = .ok (.iconst 0, 1) := by decide +kernel
theorem dX6_takeNumber_21 : decode cX6_takeNumber 21 = .ok (.bipush 9, 2) := by decide +kernel
theorem dX6_takeNumber_23 : decode cX6_takeNumber 23 = .ok (.invokevirtual 35, 3) := by decide +kernel
theorem dX6_takeNumber_26 : decode cX6_takeNumber 26 = .ok (.istore 4, 2) := by decide +kernel
theorem dX6_takeNumber_28 : decode cX6_takeNumber 28 = .ok (.iload 4, 2) := by decide +kernel
theorem dX6_takeNumber_30 : decode cX6_takeNumber 30 = .ok (.ifCond .ge 5, 3) := by decide +kernel
theorem dX6_takeNumber_33 : decode cX6_takeNumber 33 = .ok (.iload_n 2, 1) := by decide +kernel
theorem dX6_takeNumber_34 : decode cX6_takeNumber 34 = .ok (.ireturn, 1) := by decide +kernel
theorem dX6_takeNumber_35 : decode cX6_takeNumber 35 = .ok (.bipush 10, 2) := by decide +kernel
theorem dX6_takeNumber_37 : decode cX6_takeNumber 37 = .ok (.iload_n 2, 1) := by decide +kernel
theorem dX6_takeNumber_38 : decode cX6_takeNumber 38 = .ok (.imul, 1) := by decide +kernel
theorem dX6_takeNumber_39 : decode cX6_takeNumber 39 = .ok (.iload 4, 2) := by decide +kernel
theorem dX6_takeNumber_41 : decode cX6_takeNumber 41 = .ok (.iadd, 1) := by decide +kernel
theorem dX6_takeNumber_42 : decode cX6_takeNumber 42 = .ok (.istore_n 2, 1) := by decide +kernel
theorem dX6_takeNumber_43 : decode cX6_takeNumber 43 = .ok (.iinc 3 1, 3) := by decide +kernel
theorem dX6_takeNumber_46 : decode cX6_takeNumber 46 = .ok (.goto (-36), 3) := by decide +kernel
theorem dX6_takeNumber_49 : decode cX6_takeNumber 49 = .ok (.iload_n 2, 1) := by decide +kernel
theorem dX6_takeNumber_50 : decode cX6_takeNumber 50 = .ok (.ireturn, 1) := by decide +kernel
def WX6_takeNumber (E : ENV) (q0 : Nat) (q0_signs : Nat) (i_length : Int32) (i_place : Int32) (i_limit : Int32) (a_signs : Nat → Int32) : va_W := [(q0, .inr (6, [.ref q0_signs, .int i_length, .int i_place, .int i_limit])), (q0_signs, .inl (E.2.1, 80, .inl a_signs))]
set_option maxHeartbeats 4000000 in
set_option maxRecDepth 20000 in
theorem kX6_takeNumber (l : Launch) (E : ENV) (q0 : Nat) (q0_signs : Nat) (i_length : Int32) (i_place : Int32) (i_limit : Int32) (a_signs : Nat → Int32) (p1 : Int32) (r9 : Int32) (i_place9 : Int32) (hf : fX6_takeNumber i_place i_limit a_signs p1 = some (r9, i_place9)) : CI l E yX6_takeNumber cX6_takeNumber 5 (some .int) 2 [.ref q0, .int p1] (WX6_takeNumber E q0 q0_signs i_length i_place i_limit a_signs) (WX6_takeNumber E q0 q0_signs i_length i_place9 i_limit a_signs) r9 := by
  refine begI (by decide +kernel) (Nat.le_of_ble_eq_true rfl) ?_
  intro p e s m args below meth c A Q C hA hret
  have hx := C.1
  have hb := C.2.1
  have L10 : ∀ (n : Nat) (v2 : Int32) (v3 : Int32) (i_place : Int32) (o : (Int32 × Int32) ⊕ (Int32 × Int32)), fX6_takeNumber_L10 i_limit a_signs p1 n v2 v3 i_place = some o → (∀ x, o = Sum.inl x → GO p l e 2 s m args below meth c Q E A 5 49 [] [(2, .int x.1)] (WX6_takeNumber E q0 q0_signs i_length x.2 i_limit a_signs)) → (∀ x, o = Sum.inr x → x = (r9, i_place9)) → GO p l e 2 s m args below meth c Q E A 5 10 [] [(0, .ref q0), (1, .int p1), (2, .int v2), (3, .int v3)] (WX6_takeNumber E q0 q0_signs i_length i_place i_limit a_signs) := by
    intro n
    induction n with
    | zero =>
      intro v2 v3 i_place o hf
      have hf : none = some o := hf
      cases hf
    | succ n ih =>
      intro v2 v3 i_place o hf hE hR
      intro H locs ls hl hP hD hS
      rw [fX6_takeNumber_L10] at hf
      refine lv_iload_n hx hb dX6_takeNumber_10 rfl (lv_at hl 3 rfl) ?_
      refine lv_iload_n hx hb dX6_takeNumber_11 rfl (lv_at hl 1 rfl) ?_
      refine lv_icmp_ge (tgt := 49) hx hb dX6_takeNumber_12 (by decide) (fun c3 => ?_) (fun c3 => ?_)
      · rw [if_pos c3] at hf
        have hf := Option.some.inj hf
        subst hf
        exact (hE _ rfl) _ _ _ (lv_sub hl [2] rfl) hP hD hS
      · rw [if_neg c3] at hf
        refine lv_iload_n hx hb dX6_takeNumber_15 rfl (lv_at hl 2 rfl) ?_
        refine lv_if_lt (tgt := 49) hx hb dX6_takeNumber_16 (by decide) (fun c4 => ?_) (fun c4 => ?_)
        · rw [if_pos c4] at hf
          have hf := Option.some.inj hf
          subst hf
          exact (hE _ rfl) _ _ _ (lv_sub hl [2] rfl) hP hD hS
        · rw [if_neg c4] at hf
          refine lv_aload_n hx hb dX6_takeNumber_19 rfl (lv_at hl 0 rfl) ?_
          refine lv_iconst (v := 0) hx hb dX6_takeNumber_20 (by decide) ?_
          refine lv_bipush (v := 9) hx hb dX6_takeNumber_21 (by decide) ?_
          obtain ⟨o5, hg6, hf⟩ := bd_some hf
          refine k_VI (As := [.int 0, .int 9]) C K_RX6_35 (Nat.le_of_ble_eq_true rfl) (Nat.le_of_ble_eq_true rfl) (kX6_takeDigit l E q0 q0_signs i_length i_place i_limit a_signs 0 9 o5.1 o5.2 hg6) [0, 1] rfl rfl rfl (ci := 6) rfl rfl (q0 := 0) rfl hP hD hS hA hl.1 (Nat.le_of_ble_eq_true rfl) rfl dX6_takeNumber_23 (fun H locs hP hD hS => ?_)
          have hP : va_P E.1 classes (WX6_takeNumber E q0 q0_signs i_length o5.2 i_limit a_signs) H := hP
          have hD : va_D A (WX6_takeNumber E q0 q0_signs i_length o5.2 i_limit a_signs) := hD
          refine lv_istore (lv' := [(4, .int o5.1), (0, .ref q0), (1, .int p1), (2, .int v2), (3, .int v3)]) hx hb dX6_takeNumber_26 hl (by decide) rfl (fun ls hl => ?_)
          refine lv_iload hx hb dX6_takeNumber_28 (lv_at hl 0 rfl) ?_
          refine lv_if_ge (tgt := 35) hx hb dX6_takeNumber_30 (by decide) (fun c7 => ?_) (fun c7 => ?_)
          · rw [if_pos c7] at hf
            refine lv_bipush (v := 10) hx hb dX6_takeNumber_35 (by decide) ?_
            refine lv_iload_n hx hb dX6_takeNumber_37 rfl (lv_at hl 3 rfl) ?_
            refine lv_imul hx hb dX6_takeNumber_38 ?_
            refine lv_iload hx hb dX6_takeNumber_39 (lv_at hl 0 rfl) ?_
            refine lv_iadd hx hb dX6_takeNumber_41 ?_
            refine lv_istore_n (lv' := [(2, .int ((((10 * v2)) + o5.1))), (4, .int o5.1), (0, .ref q0), (1, .int p1), (3, .int v3)]) hx hb dX6_takeNumber_42 rfl hl (by decide) rfl (fun ls hl => ?_)
            refine lv_iinc (v := (v3 + 1)) (lv' := [(3, .int ((v3 + 1))), (2, .int ((((10 * v2)) + o5.1))), (4, .int o5.1), (0, .ref q0), (1, .int p1)]) hx hb dX6_takeNumber_43 hl (k := 4) rfl rfl (by decide) rfl (fun ls hl => ?_)
            refine lv_goto (tgt := 10) hx hb dX6_takeNumber_46 (by decide) ?_
            exact ih ((((10 * v2)) + o5.1)) ((v3 + 1)) o5.2 _ hf hE hR _ _ _ (lv_sub hl [3, 4, 1, 0] rfl) hP hD hS
          · rw [if_neg c7] at hf
            refine lv_iload_n hx hb dX6_takeNumber_33 rfl (lv_at hl 3 rfl) ?_
            have hf := Option.some.inj hf
            subst hf
            have hj0 := hR _ rfl
            obtain ⟨ha0, hj1⟩ := Prod.mk.inj hj0
            subst ha0
            subst hj1
            exact hret _ _ _ _ dX6_takeNumber_34 rfl hP hD hS
  intro H locs ls hl hP hD hS
  have hl : lv_has ls 5 [(0, .ref q0), (1, .int p1)] := hl
  unfold fX6_takeNumber at hf
  refine lv_aload_n hx hb dX6_takeNumber_0 rfl (lv_at hl 0 rfl) ?_
  refine lv_iconst (v := 0) hx hb dX6_takeNumber_1 (by decide) ?_
  refine lv_bipush (v := 9) hx hb dX6_takeNumber_2 (by decide) ?_
  obtain ⟨o1, hg2, hf⟩ := bd_some hf
  refine k_VI (As := [.int 0, .int 9]) C K_RX6_35 (Nat.le_of_ble_eq_true rfl) (Nat.le_of_ble_eq_true rfl) (kX6_takeDigit l E q0 q0_signs i_length i_place i_limit a_signs 0 9 o1.1 o1.2 hg2) [0, 1] rfl rfl rfl (ci := 6) rfl rfl (q0 := 0) rfl hP hD hS hA hl.1 (Nat.le_of_ble_eq_true rfl) rfl dX6_takeNumber_4 (fun H locs hP hD hS => ?_)
  have hP : va_P E.1 classes (WX6_takeNumber E q0 q0_signs i_length o1.2 i_limit a_signs) H := hP
  have hD : va_D A (WX6_takeNumber E q0 q0_signs i_length o1.2 i_limit a_signs) := hD
  refine lv_istore_n (lv' := [(2, .int o1.1), (0, .ref q0), (1, .int p1)]) hx hb dX6_takeNumber_7 rfl hl (by decide) rfl (fun ls hl => ?_)
  refine lv_iconst (v := 1) hx hb dX6_takeNumber_8 (by decide) ?_
  refine lv_istore_n (lv' := [(3, .int 1), (2, .int o1.1), (0, .ref q0), (1, .int p1)]) hx hb dX6_takeNumber_9 rfl hl (by decide) rfl (fun ls hl => ?_)
  obtain ⟨o8, hg9, hf⟩ := bd_some hf
  refine L10 FU o1.1 1 o1.2 o8 hg9 ?_ ?_ _ _ _ (lv_sub hl [2, 3, 1, 0] rfl) hP hD hS
  · intro x10 hxx
    rw [hxx, Sum.elim_inl] at hf
    intro H locs ls hl hP hD hS
    refine lv_iload_n hx hb dX6_takeNumber_49 rfl (lv_at hl 0 rfl) ?_
    have hj0 := Option.some.inj hf
    obtain ⟨ha0, hj1⟩ := Prod.mk.inj hj0
    subst ha0
    subst hj1
    exact hret _ _ _ _ dX6_takeNumber_50 rfl hP hD hS
  · intro x hxx
    rw [hxx, Sum.elim_inr] at hf
    exact Option.some.inj hf
theorem dX6_fault_0 : decode cX6_fault 0 = .ok (.iconst (-1), 1) := by decide +kernel
theorem dX6_fault_1 : decode cX6_fault 1 = .ok (.aload_n 0, 1) := by decide +kernel
theorem dX6_fault_2 : decode cX6_fault 2 = .ok (.getfield 19, 3) := by decide +kernel
theorem dX6_fault_5 : decode cX6_fault 5 = .ok (.isub, 1) := by decide +kernel
theorem dX6_fault_6 : decode cX6_fault 6 = .ok (.ireturn, 1) := by decide +kernel
def WX6_fault (E : ENV) (q0 : Nat) (q0_signs : Nat) (i_length : Int32) (i_place : Int32) (i_limit : Int32) : va_W := [(q0, .inr (6, [.ref q0_signs, .int i_length, .int i_place, .int i_limit]))]
set_option maxHeartbeats 4000000 in
set_option maxRecDepth 20000 in
theorem kX6_fault (l : Launch) (E : ENV) (q0 : Nat) (q0_signs : Nat) (i_length : Int32) (i_place : Int32) (i_limit : Int32) (r9 : Int32) (hf : fX6_fault i_place = some r9) : CI l E yX6_fault cX6_fault 1 (some .int) 0 [.ref q0] (WX6_fault E q0 q0_signs i_length i_place i_limit) (WX6_fault E q0 q0_signs i_length i_place i_limit) r9 := by
  refine begI (by decide +kernel) (Nat.le_of_ble_eq_true rfl) ?_
  intro p e s m args below meth c A Q C hA hret
  have hx := C.1
  have hb := C.2.1
  intro H locs ls hl hP hD hS
  have hl : lv_has ls 1 [(0, .ref q0)] := hl
  unfold fX6_fault at hf
  refine lv_iconst (v := (-1)) hx hb dX6_fault_0 (by decide) ?_
  refine lv_aload_n hx hb dX6_fault_1 rfl (lv_at hl 0 rfl) ?_
  refine gf_RX6_19 C hP 0 rfl rfl dX6_fault_2 ?_
  refine lv_isub hx hb dX6_fault_5 ?_
  have hj0 := Option.some.inj hf
  subst hj0
  exact hret _ _ _ _ dX6_fault_6 rfl hP hD hS
theorem pf_RX6_15 {p : Program} {l : Launch} {e : Env} {R : Room} {s : State} {m : MethodId} {args : Array Value} {below : List Frame} {meth : Method} {c : Code} {H : Heap} {locs : List Loc} {cells slots : Nat} {Q : State → Prop} {E : ENV} {cc : ByteArray} {n : Nat} {r : Option FieldType} {pc : Nat} {ls : Array Slot} {rest : List Value} {a : Nat} {ws : va_W} {nm ds : String} {fs : List Value} {A : Nat → Prop} {H0 : Heap} {x : Int32} (C : Cx E A ⟨RX6, nm, ds⟩ cc n r p s m args meth c) (hP : va_P E.1 classes ws H) (hD : va_D A ws) (hS : va_S A H0 H locs) (q0 : Nat) (he : ws[q0]? = some (a, .inr (6, fs))) (hl : 1 < fs.length) (hdg : decode cc pc = .ok (.putfield 15, 3))
    (kk : ∀ (H1 : Heap) (locs1 : List Loc), va_P E.1 classes (ws.set q0 (a, .inr (6, fs.set 1 (.int x)))) H1 → va_D A (ws.set q0 (a, .inr (6, fs.set 1 (.int x)))) → va_S A H0 H1 locs1 → W p l e R s m args below meth c H1 locs1 cells slots Q (F0 m (pc + 3) ls rest)) : W p l e R s m args below meth c H locs cells slots Q (F0 m pc ls (.int x :: .ref a :: rest)) :=
  va_put (C := RX6) (T := TX6) (N := 4) (ty := .int) (Ts := wl ⟨RX6, nm, ds⟩ cc n r) C.1 C.2.1 C.2.2.2.2.1 (fun w h => List.mem_cons_of_mem _ (inT6 w h)) tyX6 tyX6_ok nmX6 C.2.2.2.1 C.2.2.2.2.2.1 hP hD hS q0 he rfl 1 (by decide) (C.2.2.2.2.1 _ (List.mem_cons_of_mem _ q131)) (fun _ h9 => h9) rfl (by decide +kernel) rfl rfl hl hdg kk
theorem dX6_append_0 : decode cX6_append 0 = .ok (.aload_n 0, 1) := by decide +kernel
theorem dX6_append_1 : decode cX6_append 1 = .ok (.getfield 15, 3) := by decide +kernel
theorem dX6_append_4 : decode cX6_append 4 = .ok (.bipush 76, 2) := by decide +kernel
theorem dX6_append_6 : decode cX6_append 6 = .ok (.if_icmp .le 5, 3) := by decide +kernel
theorem dX6_append_9 : decode cX6_append 9 = .ok (.iconst (-1), 1) := by decide +kernel
theorem dX6_append_10 : decode cX6_append 10 = .ok (.ireturn, 1) := by decide +kernel
theorem dX6_append_11 : decode cX6_append 11 = .ok (.iconst 0, 1) := by decide +kernel
theorem dX6_append_12 : decode cX6_append 12 = .ok (.istore_n 2, 1) := by decide +kernel
theorem dX6_append_13 : decode cX6_append 13 = .ok (.iload_n 2, 1) := by decide +kernel
theorem dX6_append_14 : decode cX6_append 14 = .ok (.iconst 4, 1) := by decide +kernel
theorem dX6_append_15 : decode cX6_append 15 = .ok (.if_icmp .ge 33, 3) := by decide +kernel
theorem dX6_append_18 : decode cX6_append 18 = .ok (.aload_n 0, 1) := by decide +kernel
theorem dX6_append_19 : decode cX6_append 19 = .ok (.getfield 11, 3) := by decide +kernel
theorem dX6_append_22 : decode cX6_append 22 = .ok (.aload_n 0, 1) := by decide +kernel
theorem dX6_append_23 : decode cX6_append 23 = .ok (.getfield 15, 3) := by decide +kernel
theorem dX6_append_26 : decode cX6_append 26 = .ok (.iload_n 2, 1) := by decide +kernel
theorem dX6_append_27 : decode cX6_append 27 = .ok (.iadd, 1) := by decide +kernel
theorem dX6_append_28 : decode cX6_append 28 = .ok (.iload_n 1, 1) := by decide +kernel
theorem dX6_append_29 : decode cX6_append 29 = .ok (.bipush 24, 2) := by decide +kernel
theorem dX6_append_31 : decode cX6_append 31 = .ok (.bipush 8, 2) := by decide +kernel
theorem dX6_append_33 : decode cX6_append 33 = .ok (.iload_n 2, 1) := by decide +kernel
theorem dX6_append_34 : decode cX6_append 34 = .ok (.imul, 1) := by decide +kernel
theorem dX6_append_35 : decode cX6_append 35 = .ok (.isub, 1) := by decide +kernel
theorem dX6_append_36 : decode cX6_append 36 = .ok (.iushr, 1) := by decide +kernel
theorem dX6_append_37 : decode cX6_append 37 = .ok (.sipush 255, 3) := by decide +kernel
theorem dX6_append_40 : decode cX6_append 40 = .ok (.iand, 1) := by decide +kernel
theorem dX6_append_41 : decode cX6_append 41 = .ok (.iastore, 1) := by decide +kernel
theorem dX6_append_42 : decode cX6_append 42 = .ok (.iinc 2 1, 3) := by decide +kernel
theorem dX6_append_45 : decode cX6_append 45 = .ok (.goto (-32), 3) := by decide +kernel
theorem dX6_append_48 : decode cX6_append 48 = .ok (.aload_n 0, 1) := by decide +kernel
theorem dX6_append_49 : decode cX6_append 49 = .ok (.dup, 1) := by decide +kernel
theorem dX6_append_50 : decode cX6_append 50 = .ok (.getfield 15, 3) := by decide +kernel
theorem dX6_append_53 : decode cX6_append 53 = .ok (.iconst 4, 1) := by decide +kernel
theorem dX6_append_54 : decode cX6_append 54 = .ok (.iadd, 1) := by decide +kernel
theorem dX6_append_55 : decode cX6_append 55 = .ok (.putfield 15, 3) := by decide +kernel
theorem dX6_append_58 : decode cX6_append 58 = .ok (.aload_n 0, 1) := by decide +kernel
theorem dX6_append_59 : decode cX6_append 59 = .ok (.getfield 15, 3) := by decide +kernel
theorem dX6_append_62 : decode cX6_append 62 = .ok (.ireturn, 1) := by decide +kernel
def WX6_append (E : ENV) (q0 : Nat) (q0_signs : Nat) (i_length : Int32) (i_place : Int32) (i_limit : Int32) (a_signs : Nat → Int32) : va_W := [(q0, .inr (6, [.ref q0_signs, .int i_length, .int i_place, .int i_limit])), (q0_signs, .inl (E.2.1, 80, .inl a_signs))]
set_option maxHeartbeats 4000000 in
set_option maxRecDepth 20000 in
theorem kX6_append (l : Launch) (E : ENV) (q0 : Nat) (q0_signs : Nat) (i_length : Int32) (i_place : Int32) (i_limit : Int32) (a_signs : Nat → Int32) (p1 : Int32) (r9 : Int32) (i_length9 : Int32) (a_signs9 : Nat → Int32) (hf : fX6_append i_length a_signs p1 = some (r9, i_length9, a_signs9)) : CI l E yX6_append cX6_append 3 (some .int) 0 [.ref q0, .int p1] (WX6_append E q0 q0_signs i_length i_place i_limit a_signs) (WX6_append E q0 q0_signs i_length9 i_place i_limit a_signs9) r9 := by
  refine begI (by decide +kernel) (Nat.le_of_ble_eq_true rfl) ?_
  intro p e s m args below meth c A Q C hA hret
  have hx := C.1
  have hb := C.2.1
  have L13 : ∀ (i_length : Int32), ∀ (n : Nat) (v2 : Int32) (a_signs : Nat → Int32) (o : (Nat → Int32)), fX6_append_L13 p1 i_length n v2 a_signs = some o → (GO p l e 0 s m args below meth c Q E A 3 48 [] [(0, .ref q0)] (WX6_append E q0 q0_signs i_length i_place i_limit o)) → GO p l e 0 s m args below meth c Q E A 3 13 [] [(0, .ref q0), (1, .int p1), (2, .int v2)] (WX6_append E q0 q0_signs i_length i_place i_limit a_signs) := by
    intro i_length
    intro n
    induction n with
    | zero =>
      intro v2 a_signs o hf
      have hf : none = some o := hf
      cases hf
    | succ n ih =>
      intro v2 a_signs o hf hE
      intro H locs ls hl hP hD hS
      rw [fX6_append_L13] at hf
      refine lv_iload_n hx hb dX6_append_13 rfl (lv_at hl 2 rfl) ?_
      refine lv_iconst (v := 4) hx hb dX6_append_14 (by decide) ?_
      refine lv_icmp_ge (tgt := 48) hx hb dX6_append_15 (by decide) (fun c2 => ?_) (fun c2 => ?_)
      · rw [if_pos c2] at hf
        have hf := Option.some.inj hf
        subst hf
        exact hE _ _ _ (lv_sub hl [0] rfl) hP hD hS
      · rw [if_neg c2] at hf
        refine lv_aload_n hx hb dX6_append_18 rfl (lv_at hl 0 rfl) ?_
        refine gf_RX6_11 C hP 0 rfl rfl dX6_append_19 ?_
        refine lv_aload_n hx hb dX6_append_22 rfl (lv_at hl 0 rfl) ?_
        refine gf_RX6_15 C hP 0 rfl rfl dX6_append_23 ?_
        refine lv_iload_n hx hb dX6_append_26 rfl (lv_at hl 2 rfl) ?_
        refine lv_iadd hx hb dX6_append_27 ?_
        refine lv_iload_n hx hb dX6_append_28 rfl (lv_at hl 1 rfl) ?_
        refine lv_bipush (v := 24) hx hb dX6_append_29 (by decide) ?_
        refine lv_bipush (v := 8) hx hb dX6_append_31 (by decide) ?_
        refine lv_iload_n hx hb dX6_append_33 rfl (lv_at hl 2 rfl) ?_
        refine lv_imul hx hb dX6_append_34 ?_
        refine lv_isub hx hb dX6_append_35 ?_
        refine lv_iushr (v := (ush p1 ((24 - ((8 * v2)))))) hx hb dX6_append_36 rfl ?_
        refine lv_sipush (v := 255) hx hb dX6_append_37 (by decide) ?_
        refine lv_iand hx hb dX6_append_40 ?_
        obtain ⟨g3, hf⟩ := gd_some hf
        refine va_iast hx hb C.2.2.2.2.2.1 hP hD hS 1 0 rfl rfl (vin_in g3) dX6_append_41 (fun H locs hP hD hS => ?_)
        have hP : va_P E.1 classes (WX6_append E q0 q0_signs i_length i_place i_limit ((upd a_signs ((i_length + v2) : Int32).toNatClampNeg ((((ush p1 ((24 - ((8 * v2)))))) &&& 255))))) H := hP
        have hD : va_D A (WX6_append E q0 q0_signs i_length i_place i_limit ((upd a_signs ((i_length + v2) : Int32).toNatClampNeg ((((ush p1 ((24 - ((8 * v2)))))) &&& 255))))) := hD
        refine lv_iinc (v := (v2 + 1)) (lv' := [(2, .int ((v2 + 1))), (0, .ref q0), (1, .int p1)]) hx hb dX6_append_42 hl (k := 2) rfl rfl (by decide) rfl (fun ls hl => ?_)
        refine lv_goto (tgt := 13) hx hb dX6_append_45 (by decide) ?_
        exact ih ((v2 + 1)) ((upd a_signs ((i_length + v2) : Int32).toNatClampNeg ((((ush p1 ((24 - ((8 * v2)))))) &&& 255)))) _ hf hE _ _ _ (lv_sub hl [1, 2, 0] rfl) hP hD hS
  intro H locs ls hl hP hD hS
  have hl : lv_has ls 3 [(0, .ref q0), (1, .int p1)] := hl
  unfold fX6_append at hf
  refine lv_aload_n hx hb dX6_append_0 rfl (lv_at hl 0 rfl) ?_
  refine gf_RX6_15 C hP 0 rfl rfl dX6_append_1 ?_
  refine lv_bipush (v := 76) hx hb dX6_append_4 (by decide) ?_
  refine lv_icmp_le (tgt := 11) hx hb dX6_append_6 (by decide) (fun c1 => ?_) (fun c1 => ?_)
  · rw [if_pos c1] at hf
    refine lv_iconst (v := 0) hx hb dX6_append_11 (by decide) ?_
    refine lv_istore_n (lv' := [(2, .int 0), (0, .ref q0), (1, .int p1)]) hx hb dX6_append_12 rfl hl (by decide) rfl (fun ls hl => ?_)
    obtain ⟨o4, hg5, hf⟩ := bd_some hf
    refine L13 i_length FU 0 a_signs o4 hg5 ?_ _ _ _ (lv_sub hl [1, 2, 0] rfl) hP hD hS
    intro H locs ls hl hP hD hS
    refine lv_aload_n hx hb dX6_append_48 rfl (lv_at hl 0 rfl) ?_
    refine lv_dup hx hb dX6_append_49 rfl ?_
    refine gf_RX6_15 C hP 0 rfl rfl dX6_append_50 ?_
    refine lv_iconst (v := 4) hx hb dX6_append_53 (by decide) ?_
    refine lv_iadd hx hb dX6_append_54 ?_
    refine pf_RX6_15 C hP hD hS 0 rfl (Nat.le_of_ble_eq_true rfl) dX6_append_55 (fun H locs hP hD hS => ?_)
    have hP : va_P E.1 classes (WX6_append E q0 q0_signs ((i_length + 4)) i_place i_limit o4) H := hP
    have hD : va_D A (WX6_append E q0 q0_signs ((i_length + 4)) i_place i_limit o4) := hD
    refine lv_aload_n hx hb dX6_append_58 rfl (lv_at hl 0 rfl) ?_
    refine gf_RX6_15 C hP 0 rfl rfl dX6_append_59 ?_
    have hj0 := Option.some.inj hf
    obtain ⟨ha0, hj1⟩ := Prod.mk.inj hj0
    obtain ⟨ha1, hj2⟩ := Prod.mk.inj hj1
    subst ha0
    subst ha1
    subst hj2
    exact hret _ _ _ _ dX6_append_62 rfl hP hD hS
  · rw [if_neg c1] at hf
    refine lv_iconst (v := (-1)) hx hb dX6_append_9 (by decide) ?_
    have hj0 := Option.some.inj hf
    obtain ⟨ha0, hj1⟩ := Prod.mk.inj hj0
    obtain ⟨ha1, hj2⟩ := Prod.mk.inj hj1
    subst ha0
    subst ha1
    subst hj2
    exact hret _ _ _ _ dX6_append_10 rfl hP hD hS
theorem dX6_cut_0 : decode cX6_cut 0 = .ok (.iload_n 1, 1) := by decide +kernel
theorem dX6_cut_1 : decode cX6_cut 1 = .ok (.ifCond .lt 11, 3) := by decide +kernel
theorem dX6_cut_4 : decode cX6_cut 4 = .ok (.iload_n 1, 1) := by decide +kernel
theorem dX6_cut_5 : decode cX6_cut 5 = .ok (.aload_n 0, 1) := by decide +kernel
theorem dX6_cut_6 : decode cX6_cut 6 = .ok (.getfield 15, 3) := by decide +kernel
theorem dX6_cut_9 : decode cX6_cut 9 = .ok (.if_icmp .le 5, 3) := by decide +kernel
theorem dX6_cut_12 : decode cX6_cut 12 = .ok (.iconst 0, 1) := by decide +kernel
theorem dX6_cut_13 : decode cX6_cut 13 = .ok (.ireturn, 1) := by decide +kernel
theorem dX6_cut_14 : decode cX6_cut 14 = .ok (.aload_n 0, 1) := by decide +kernel
theorem dX6_cut_15 : decode cX6_cut 15 = .ok (.iload_n 1, 1) := by decide +kernel
theorem dX6_cut_16 : decode cX6_cut 16 = .ok (.putfield 15, 3) := by decide +kernel
theorem dX6_cut_19 : decode cX6_cut 19 = .ok (.iconst 1, 1) := by decide +kernel
theorem dX6_cut_20 : decode cX6_cut 20 = .ok (.ireturn, 1) := by decide +kernel
def WX6_cut (E : ENV) (q0 : Nat) (q0_signs : Nat) (i_length : Int32) (i_place : Int32) (i_limit : Int32) : va_W := [(q0, .inr (6, [.ref q0_signs, .int i_length, .int i_place, .int i_limit]))]
set_option maxHeartbeats 4000000 in
set_option maxRecDepth 20000 in
theorem kX6_cut (l : Launch) (E : ENV) (q0 : Nat) (q0_signs : Nat) (i_length : Int32) (i_place : Int32) (i_limit : Int32) (p1 : Int32) (r9 : Int32) (i_length9 : Int32) (hf : fX6_cut i_length p1 = some (r9, i_length9)) : CI l E yX6_cut cX6_cut 2 (some .boolean) 0 [.ref q0, .int p1] (WX6_cut E q0 q0_signs i_length i_place i_limit) (WX6_cut E q0 q0_signs i_length9 i_place i_limit) r9 := by
  refine begI (by decide +kernel) (Nat.le_of_ble_eq_true rfl) ?_
  intro p e s m args below meth c A Q C hA hret
  have hx := C.1
  have hb := C.2.1
  intro H locs ls hl hP hD hS
  have hl : lv_has ls 2 [(0, .ref q0), (1, .int p1)] := hl
  unfold fX6_cut at hf
  refine lv_iload_n hx hb dX6_cut_0 rfl (lv_at hl 1 rfl) ?_
  refine lv_if_lt (tgt := 12) hx hb dX6_cut_1 (by decide) (fun c1 => ?_) (fun c1 => ?_)
  · rw [if_pos c1] at hf
    refine lv_iconst (v := 0) hx hb dX6_cut_12 (by decide) ?_
    have hj0 := Option.some.inj hf
    obtain ⟨ha0, hj1⟩ := Prod.mk.inj hj0
    subst ha0
    subst hj1
    exact hret _ _ _ _ dX6_cut_13 rfl hP hD hS
  · rw [if_neg c1] at hf
    refine lv_iload_n hx hb dX6_cut_4 rfl (lv_at hl 1 rfl) ?_
    refine lv_aload_n hx hb dX6_cut_5 rfl (lv_at hl 0 rfl) ?_
    refine gf_RX6_15 C hP 0 rfl rfl dX6_cut_6 ?_
    refine lv_icmp_le (tgt := 14) hx hb dX6_cut_9 (by decide) (fun c2 => ?_) (fun c2 => ?_)
    · rw [if_pos c2] at hf
      refine lv_aload_n hx hb dX6_cut_14 rfl (lv_at hl 0 rfl) ?_
      refine lv_iload_n hx hb dX6_cut_15 rfl (lv_at hl 1 rfl) ?_
      refine pf_RX6_15 C hP hD hS 0 rfl (Nat.le_of_ble_eq_true rfl) dX6_cut_16 (fun H locs hP hD hS => ?_)
      have hP : va_P E.1 classes (WX6_cut E q0 q0_signs p1 i_place i_limit) H := hP
      have hD : va_D A (WX6_cut E q0 q0_signs p1 i_place i_limit) := hD
      refine lv_iconst (v := 1) hx hb dX6_cut_19 (by decide) ?_
      have hj0 := Option.some.inj hf
      obtain ⟨ha0, hj1⟩ := Prod.mk.inj hj0
      subst ha0
      subst hj1
      exact hret _ _ _ _ dX6_cut_20 rfl hP hD hS
    · rw [if_neg c2] at hf
      refine lv_iconst (v := 0) hx hb dX6_cut_12 (by decide) ?_
      have hj0 := Option.some.inj hf
      obtain ⟨ha0, hj1⟩ := Prod.mk.inj hj0
      subst ha0
      subst hj1
      exact hret _ _ _ _ dX6_cut_13 rfl hP hD hS
theorem dX6_empty_0 : decode cX6_empty 0 = .ok (.aload_n 0, 1) := by decide +kernel
theorem dX6_empty_1 : decode cX6_empty 1 = .ok (.iconst 0, 1) := by decide +kernel
theorem dX6_empty_2 : decode cX6_empty 2 = .ok (.putfield 15, 3) := by decide +kernel
theorem dX6_empty_5 : decode cX6_empty 5 = .ok (.return_, 1) := by decide +kernel
def WX6_empty (E : ENV) (q0 : Nat) (q0_signs : Nat) (i_length : Int32) (i_place : Int32) (i_limit : Int32) : va_W := [(q0, .inr (6, [.ref q0_signs, .int i_length, .int i_place, .int i_limit]))]
set_option maxHeartbeats 4000000 in
set_option maxRecDepth 20000 in
theorem kX6_empty (l : Launch) (E : ENV) (q0 : Nat) (q0_signs : Nat) (i_length : Int32) (i_place : Int32) (i_limit : Int32) (i_length9 : Int32) (hf : fX6_empty i_length = some i_length9) : CV l E yX6_empty cX6_empty 1 0 [.ref q0] (WX6_empty E q0 q0_signs i_length i_place i_limit) (WX6_empty E q0 q0_signs i_length9 i_place i_limit) := by
  refine begV (by decide +kernel) (Nat.le_of_ble_eq_true rfl) ?_
  intro p e s m args below meth c A Q C hA hret
  have hx := C.1
  have hb := C.2.1
  intro H locs ls hl hP hD hS
  have hl : lv_has ls 1 [(0, .ref q0)] := hl
  unfold fX6_empty at hf
  refine lv_aload_n hx hb dX6_empty_0 rfl (lv_at hl 0 rfl) ?_
  refine lv_iconst (v := 0) hx hb dX6_empty_1 (by decide) ?_
  refine pf_RX6_15 C hP hD hS 0 rfl (Nat.le_of_ble_eq_true rfl) dX6_empty_2 (fun H locs hP hD hS => ?_)
  have hP : va_P E.1 classes (WX6_empty E q0 q0_signs 0 i_place i_limit) H := hP
  have hD : va_D A (WX6_empty E q0 q0_signs 0 i_place i_limit) := hD
  have hj0 := Option.some.inj hf
  subst hj0
  exact hret _ _ _ _ dX6_empty_5 hP hD hS
theorem dX6_stepBack_0 : decode cX6_stepBack 0 = .ok (.aload_n 0, 1) := by decide +kernel
theorem dX6_stepBack_1 : decode cX6_stepBack 1 = .ok (.dup, 1) := by decide +kernel
theorem dX6_stepBack_2 : decode cX6_stepBack 2 = .ok (.getfield 19, 3) := by decide +kernel
theorem dX6_stepBack_5 : decode cX6_stepBack 5 = .ok (.iconst 1, 1) := by decide +kernel
theorem dX6_stepBack_6 : decode cX6_stepBack 6 = .ok (.isub, 1) := by decide +kernel
theorem dX6_stepBack_7 : decode cX6_stepBack 7 = .ok (.putfield 19, 3) := by decide +kernel
theorem dX6_stepBack_10 : decode cX6_stepBack 10 = .ok (.return_, 1) := by decide +kernel
def WX6_stepBack (E : ENV) (q0 : Nat) (q0_signs : Nat) (i_length : Int32) (i_place : Int32) (i_limit : Int32) : va_W := [(q0, .inr (6, [.ref q0_signs, .int i_length, .int i_place, .int i_limit]))]
set_option maxHeartbeats 4000000 in
set_option maxRecDepth 20000 in
theorem kX6_stepBack (l : Launch) (E : ENV) (q0 : Nat) (q0_signs : Nat) (i_length : Int32) (i_place : Int32) (i_limit : Int32) (i_place9 : Int32) (hf : fX6_stepBack i_place = some i_place9) : CV l E yX6_stepBack cX6_stepBack 1 0 [.ref q0] (WX6_stepBack E q0 q0_signs i_length i_place i_limit) (WX6_stepBack E q0 q0_signs i_length i_place9 i_limit) := by
  refine begV (by decide +kernel) (Nat.le_of_ble_eq_true rfl) ?_
  intro p e s m args below meth c A Q C hA hret
  have hx := C.1
  have hb := C.2.1
  intro H locs ls hl hP hD hS
  have hl : lv_has ls 1 [(0, .ref q0)] := hl
  unfold fX6_stepBack at hf
  refine lv_aload_n hx hb dX6_stepBack_0 rfl (lv_at hl 0 rfl) ?_
  refine lv_dup hx hb dX6_stepBack_1 rfl ?_
  refine gf_RX6_19 C hP 0 rfl rfl dX6_stepBack_2 ?_
  refine lv_iconst (v := 1) hx hb dX6_stepBack_5 (by decide) ?_
  refine lv_isub hx hb dX6_stepBack_6 ?_
  refine pf_RX6_19 C hP hD hS 0 rfl (Nat.le_of_ble_eq_true rfl) dX6_stepBack_7 (fun H locs hP hD hS => ?_)
  have hP : va_P E.1 classes (WX6_stepBack E q0 q0_signs i_length ((i_place - 1)) i_limit) H := hP
  have hD : va_D A (WX6_stepBack E q0 q0_signs i_length ((i_place - 1)) i_limit) := hD
  have hj0 := Option.some.inj hf
  subst hj0
  exact hret _ _ _ _ dX6_stepBack_10 hP hD hS
