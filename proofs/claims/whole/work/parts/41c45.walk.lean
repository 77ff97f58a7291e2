theorem inT9 : ∀ w ∈ u_ws RX9 TX9 9, w ∈ Tg := by decide +kernel
theorem q277 : Cond.fieldLink RX9 18 "SnowForSummer$Walk" "owedBy" "[I" ∈ Tg := Tg_mem 277 (by decide +kernel) (by decide +kernel)
theorem gf_RX9_18 {p : Program} {l : Launch} {e : Env} {R : Room} {s : State} {m : MethodId} {args : Array Value} {below : List Frame} {meth : Method} {c : Code} {H : Heap} {locs : List Loc} {cells slots : Nat} {Q : State → Prop} {E : ENV} {cc : ByteArray} {n : Nat} {r : Option FieldType} {pc : Nat} {ls : Array Slot} {rest : List Value} {a : Nat} {ws : va_W} {nm ds : String} {fs : List Value} {A : Nat → Prop} {v : Value} (C : Cx E A ⟨RX9, nm, ds⟩ cc n r p s m args meth c) (hP : va_P E.1 classes ws H) (q0 : Nat) (he : ws[q0]? = some (a, .inr (9, fs))) (hv : fs[4]? = some v) (hdg : decode cc pc = .ok (.getfield 18, 3))
    (kk : W p l e R s m args below meth c H locs cells slots Q (F0 m (pc + 3) ls (v :: rest))) : W p l e R s m args below meth c H locs cells slots Q (F0 m pc ls (.ref a :: rest)) :=
  va_get (C := RX9) (T := TX9) (N := 9) (Ts := wl ⟨RX9, nm, ds⟩ cc n r) C.1 C.2.1 C.2.2.2.2.1 (fun w h => List.mem_cons_of_mem _ (inT9 w h)) C.2.2.2.1 C.2.2.2.2.2.1 hP q0 he rfl 4 (by decide) (C.2.2.2.2.1 _ (List.mem_cons_of_mem _ q277)) (fun _ h9 => h9) hv hdg kk
theorem K_RX9_47 : KS RX9 47 yJ7_fill_53178 cJ7_fill_53178 4 none 2 := ⟨Tg_mem 727 (by decide +kernel) (by decide +kernel), Tg_mem 114 (by decide +kernel) (by decide +kernel), Tg_mem 779 (by decide +kernel) (by decide +kernel), Tg_mem 726 (by decide +kernel) (by decide +kernel), by decide +kernel⟩
theorem q280 : Cond.fieldLink RX9 53 "SnowForSummer$Walk" "owed" "I" ∈ Tg := Tg_mem 280 (by decide +kernel) (by decide +kernel)
theorem pf_RX9_53 {p : Program} {l : Launch} {e : Env} {R : Room} {s : State} {m : MethodId} {args : Array Value} {below : List Frame} {meth : Method} {c : Code} {H : Heap} {locs : List Loc} {cells slots : Nat} {Q : State → Prop} {E : ENV} {cc : ByteArray} {n : Nat} {r : Option FieldType} {pc : Nat} {ls : Array Slot} {rest : List Value} {a : Nat} {ws : va_W} {nm ds : String} {fs : List Value} {A : Nat → Prop} {H0 : Heap} {x : Int32} (C : Cx E A ⟨RX9, nm, ds⟩ cc n r p s m args meth c) (hP : va_P E.1 classes ws H) (hD : va_D A ws) (hS : va_S A H0 H locs) (q0 : Nat) (he : ws[q0]? = some (a, .inr (9, fs))) (hl : 5 < fs.length) (hdg : decode cc pc = .ok (.putfield 53, 3))
    (kk : ∀ (H1 : Heap) (locs1 : List Loc), va_P E.1 classes (ws.set q0 (a, .inr (9, fs.set 5 (.int x)))) H1 → va_D A (ws.set q0 (a, .inr (9, fs.set 5 (.int x)))) → va_S A H0 H1 locs1 → W p l e R s m args below meth c H1 locs1 cells slots Q (F0 m (pc + 3) ls rest)) : W p l e R s m args below meth c H locs cells slots Q (F0 m pc ls (.int x :: .ref a :: rest)) :=
  va_put (C := RX9) (T := TX9) (N := 9) (ty := .int) (Ts := wl ⟨RX9, nm, ds⟩ cc n r) C.1 C.2.1 C.2.2.2.2.1 (fun w h => List.mem_cons_of_mem _ (inT9 w h)) tyX9 tyX9_ok nmX9 C.2.2.2.1 C.2.2.2.2.2.1 hP hD hS q0 he rfl 5 (by decide) (C.2.2.2.2.1 _ (List.mem_cons_of_mem _ q280)) (fun _ h9 => h9) rfl (by decide +kernel) rfl rfl hl hdg kk
theorem q283 : Cond.fieldLink RX9 57 "SnowForSummer$Walk" "slides" "I" ∈ Tg := Tg_mem 283 (by decide +kernel) (by decide +kernel)
theorem pf_RX9_57 {p : Program} {l : Launch} {e : Env} {R : Room} {s : State} {m : MethodId} {args : Array Value} {below : List Frame} {meth : Method} {c : Code} {H : Heap} {locs : List Loc} {cells slots : Nat} {Q : State → Prop} {E : ENV} {cc : ByteArray} {n : Nat} {r : Option FieldType} {pc : Nat} {ls : Array Slot} {rest : List Value} {a : Nat} {ws : va_W} {nm ds : String} {fs : List Value} {A : Nat → Prop} {H0 : Heap} {x : Int32} (C : Cx E A ⟨RX9, nm, ds⟩ cc n r p s m args meth c) (hP : va_P E.1 classes ws H) (hD : va_D A ws) (hS : va_S A H0 H locs) (q0 : Nat) (he : ws[q0]? = some (a, .inr (9, fs))) (hl : 6 < fs.length) (hdg : decode cc pc = .ok (.putfield 57, 3))
    (kk : ∀ (H1 : Heap) (locs1 : List Loc), va_P E.1 classes (ws.set q0 (a, .inr (9, fs.set 6 (.int x)))) H1 → va_D A (ws.set q0 (a, .inr (9, fs.set 6 (.int x)))) → va_S A H0 H1 locs1 → W p l e R s m args below meth c H1 locs1 cells slots Q (F0 m (pc + 3) ls rest)) : W p l e R s m args below meth c H locs cells slots Q (F0 m pc ls (.int x :: .ref a :: rest)) :=
  va_put (C := RX9) (T := TX9) (N := 9) (ty := .int) (Ts := wl ⟨RX9, nm, ds⟩ cc n r) C.1 C.2.1 C.2.2.2.2.1 (fun w h => List.mem_cons_of_mem _ (inT9 w h)) tyX9 tyX9_ok nmX9 C.2.2.2.1 C.2.2.2.2.2.1 hP hD hS q0 he rfl 6 (by decide) (C.2.2.2.2.1 _ (List.mem_cons_of_mem _ q283)) (fun _ h9 => h9) rfl (by decide +kernel) rfl rfl hl hdg kk
theorem q285 : Cond.fieldLink RX9 60 "SnowForSummer$Walk" "struck" "I" ∈ Tg := Tg_mem 285 (by decide +kernel) (by decide +kernel)
theorem pf_RX9_60 {p : Program} {l : Launch} {e : Env} {R : Room} {s : State} {m : MethodId} {args : Array Value} {below : List Frame} {meth : Method} {c : Code} {H : Heap} {locs : List Loc} {cells slots : Nat} {Q : State → Prop} {E : ENV} {cc : ByteArray} {n : Nat} {r : Option FieldType} {pc : Nat} {ls : Array Slot} {rest : List Value} {a : Nat} {ws : va_W} {nm ds : String} {fs : List Value} {A : Nat → Prop} {H0 : Heap} {x : Int32} (C : Cx E A ⟨RX9, nm, ds⟩ cc n r p s m args meth c) (hP : va_P E.1 classes ws H) (hD : va_D A ws) (hS : va_S A H0 H locs) (q0 : Nat) (he : ws[q0]? = some (a, .inr (9, fs))) (hl : 7 < fs.length) (hdg : decode cc pc = .ok (.putfield 60, 3))
    (kk : ∀ (H1 : Heap) (locs1 : List Loc), va_P E.1 classes (ws.set q0 (a, .inr (9, fs.set 7 (.int x)))) H1 → va_D A (ws.set q0 (a, .inr (9, fs.set 7 (.int x)))) → va_S A H0 H1 locs1 → W p l e R s m args below meth c H1 locs1 cells slots Q (F0 m (pc + 3) ls rest)) : W p l e R s m args below meth c H locs cells slots Q (F0 m pc ls (.int x :: .ref a :: rest)) :=
  va_put (C := RX9) (T := TX9) (N := 9) (ty := .int) (Ts := wl ⟨RX9, nm, ds⟩ cc n r) C.1 C.2.1 C.2.2.2.2.1 (fun w h => List.mem_cons_of_mem _ (inT9 w h)) tyX9 tyX9_ok nmX9 C.2.2.2.1 C.2.2.2.2.2.1 hP hD hS q0 he rfl 7 (by decide) (C.2.2.2.2.1 _ (List.mem_cons_of_mem _ q285)) (fun _ h9 => h9) rfl (by decide +kernel) rfl rfl hl hdg kk
theorem q287 : Cond.fieldLink RX9 63 "SnowForSummer$Walk" "slid" "I" ∈ Tg := Tg_mem 287 (by decide +kernel) (by decide +kernel)
theorem pf_RX9_63 {p : Program} {l : Launch} {e : Env} {R : Room} {s : State} {m : MethodId} {args : Array Value} {below : List Frame} {meth : Method} {c : Code} {H : Heap} {locs : List Loc} {cells slots : Nat} {Q : State → Prop} {E : ENV} {cc : ByteArray} {n : Nat} {r : Option FieldType} {pc : Nat} {ls : Array Slot} {rest : List Value} {a : Nat} {ws : va_W} {nm ds : String} {fs : List Value} {A : Nat → Prop} {H0 : Heap} {x : Int32} (C : Cx E A ⟨RX9, nm, ds⟩ cc n r p s m args meth c) (hP : va_P E.1 classes ws H) (hD : va_D A ws) (hS : va_S A H0 H locs) (q0 : Nat) (he : ws[q0]? = some (a, .inr (9, fs))) (hl : 8 < fs.length) (hdg : decode cc pc = .ok (.putfield 63, 3))
    (kk : ∀ (H1 : Heap) (locs1 : List Loc), va_P E.1 classes (ws.set q0 (a, .inr (9, fs.set 8 (.int x)))) H1 → va_D A (ws.set q0 (a, .inr (9, fs.set 8 (.int x)))) → va_S A H0 H1 locs1 → W p l e R s m args below meth c H1 locs1 cells slots Q (F0 m (pc + 3) ls rest)) : W p l e R s m args below meth c H locs cells slots Q (F0 m pc ls (.int x :: .ref a :: rest)) :=
  va_put (C := RX9) (T := TX9) (N := 9) (ty := .int) (Ts := wl ⟨RX9, nm, ds⟩ cc n r) C.1 C.2.1 C.2.2.2.2.1 (fun w h => List.mem_cons_of_mem _ (inT9 w h)) tyX9 tyX9_ok nmX9 C.2.2.2.1 C.2.2.2.2.2.1 hP hD hS q0 he rfl 8 (by decide) (C.2.2.2.2.1 _ (List.mem_cons_of_mem _ q287)) (fun _ h9 => h9) rfl (by decide +kernel) rfl rfl hl hdg kk
theorem dX9_clearTally_0 : decode cX9_clearTally 0 = .ok (.aload_n 0, 1) := by decide +kernel
theorem dX9_clearTally_1 : decode cX9_clearTally 1 = .ok (.getfield 18, 3) := by decide +kernel
theorem dX9_clearTally_4 : decode cX9_clearTally 4 = .ok (.iconst 0, 1) := by decide +kernel
theorem dX9_clearTally_5 : decode cX9_clearTally 5 = .ok (.invokestatic 47, 3) := by decide +kernel
theorem dX9_clearTally_8 : decode cX9_clearTally 8 = .ok (.aload_n 0, 1) := by decide +kernel
theorem dX9_clearTally_9 : decode cX9_clearTally 9 = .ok (.iconst 0, 1) := by decide +kernel
theorem dX9_clearTally_10 : decode cX9_clearTally 10 = .ok (.putfield 53, 3) := by decide +kernel
theorem dX9_clearTally_13 : decode cX9_clearTally 13 = .ok (.aload_n 0, 1) := by decide +kernel
theorem dX9_clearTally_14 : decode cX9_clearTally 14 = .ok (.iconst 0, 1) := by decide +kernel
theorem dX9_clearTally_15 : decode cX9_clearTally 15 = .ok (.putfield 57, 3) := by decide +kernel
theorem dX9_clearTally_18 : decode cX9_clearTally 18 = .ok (.aload_n 0, 1) := by decide +kernel
theorem dX9_clearTally_19 : decode cX9_clearTally 19 = .ok (.iconst 0, 1) := by decide +kernel
theorem dX9_clearTally_20 : decode cX9_clearTally 20 = .ok (.putfield 60, 3) := by decide +kernel
theorem dX9_clearTally_23 : decode cX9_clearTally 23 = .ok (.aload_n 0, 1) := by decide +kernel
theorem dX9_clearTally_24 : decode cX9_clearTally 24 = .ok (.iconst 0, 1) := by decide +kernel
theorem dX9_clearTally_25 : decode cX9_clearTally 25 = .ok (.putfield 63, 3) := by decide +kernel
theorem dX9_clearTally_28 : decode cX9_clearTally 28 = .ok (.return_, 1) := by decide +kernel
def WX9_clearTally (E : ENV) (q0 : Nat) (q0_town : Nat) (q0_weather : Nat) (q0_rule : Nat) (q0_state : Nat) (q0_owedBy : Nat) (i_owed : Int32) (i_slides : Int32) (i_struck : Int32) (i_slid : Int32) (a_owedBy : Nat → Int32) : va_W := [(q0, .inr (9, [.ref q0_town, .ref q0_weather, .ref q0_rule, .ref q0_state, .ref q0_owedBy, .int i_owed, .int i_slides, .int i_struck, .int i_slid])), (q0_owedBy, .inl (E.2.1, 7, .inl a_owedBy))]
set_option maxHeartbeats 4000000 in
set_option maxRecDepth 20000 in
theorem kX9_clearTally (l : Launch) (E : ENV) (q0 : Nat) (q0_town : Nat) (q0_weather : Nat) (q0_rule : Nat) (q0_state : Nat) (q0_owedBy : Nat) (i_owed : Int32) (i_slides : Int32) (i_struck : Int32) (i_slid : Int32) (a_owedBy : Nat → Int32) (i_owed9 : Int32) (i_slides9 : Int32) (i_struck9 : Int32) (i_slid9 : Int32) (a_owedBy9 : Nat → Int32) (hf : fX9_clearTally i_owed i_slides i_struck i_slid a_owedBy = some (i_owed9, i_slides9, i_struck9, i_slid9, a_owedBy9)) : CV l E yX9_clearTally cX9_clearTally 1 1 [.ref q0] (WX9_clearTally E q0 q0_town q0_weather q0_rule q0_state q0_owedBy i_owed i_slides i_struck i_slid a_owedBy) (WX9_clearTally E q0 q0_town q0_weather q0_rule q0_state q0_owedBy i_owed9 i_slides9 i_struck9 i_slid9 a_owedBy9) := by
  refine begV (by decide +kernel) (Nat.le_of_ble_eq_true rfl) ?_
  intro p e s m args below meth c A Q C hA hret
  have hx := C.1
  have hb := C.2.1
  intro H locs ls hl hP hD hS
  have hl : lv_has ls 1 [(0, .ref q0)] := hl
  unfold fX9_clearTally at hf
  refine lv_aload_n hx hb dX9_clearTally_0 rfl (lv_at hl 0 rfl) ?_
  refine gf_RX9_18 C hP 0 rfl rfl dX9_clearTally_1 ?_
  refine lv_iconst (v := 0) hx hb dX9_clearTally_4 (by decide) ?_
  obtain ⟨o1, hg2, hf⟩ := bd_some hf
  refine k_SV (As := [.ref q0_owedBy, .int 0]) C K_RX9_47 (Nat.le_of_ble_eq_true rfl) (Nat.le_of_ble_eq_true rfl) (kJ7_fill_53178 l E q0_owedBy 7 a_owedBy 0 o1 hg2) [1] rfl rfl rfl  hP hD hS hA hl.1 (Nat.le_of_ble_eq_true rfl) rfl dX9_clearTally_5 (fun H locs hP hD hS => ?_)
  have hP : va_P E.1 classes (WX9_clearTally E q0 q0_town q0_weather q0_rule q0_state q0_owedBy i_owed i_slides i_struck i_slid o1) H := hP
  have hD : va_D A (WX9_clearTally E q0 q0_town q0_weather q0_rule q0_state q0_owedBy i_owed i_slides i_struck i_slid o1) := hD
  refine lv_aload_n hx hb dX9_clearTally_8 rfl (lv_at hl 0 rfl) ?_
  refine lv_iconst (v := 0) hx hb dX9_clearTally_9 (by decide) ?_
  refine pf_RX9_53 C hP hD hS 0 rfl (Nat.le_of_ble_eq_true rfl) dX9_clearTally_10 (fun H locs hP hD hS => ?_)
  have hP : va_P E.1 classes (WX9_clearTally E q0 q0_town q0_weather q0_rule q0_state q0_owedBy 0 i_slides i_struck i_slid o1) H := hP
  have hD : va_D A (WX9_clearTally E q0 q0_town q0_weather q0_rule q0_state q0_owedBy 0 i_slides i_struck i_slid o1) := hD
  refine lv_aload_n hx hb dX9_clearTally_13 rfl (lv_at hl 0 rfl) ?_
  refine lv_iconst (v := 0) hx hb dX9_clearTally_14 (by decide) ?_
  refine pf_RX9_57 C hP hD hS 0 rfl (Nat.le_of_ble_eq_true rfl) dX9_clearTally_15 (fun H locs hP hD hS => ?_)
  have hP : va_P E.1 classes (WX9_clearTally E q0 q0_town q0_weather q0_rule q0_state q0_owedBy 0 0 i_struck i_slid o1) H := hP
  have hD : va_D A (WX9_clearTally E q0 q0_town q0_weather q0_rule q0_state q0_owedBy 0 0 i_struck i_slid o1) := hD
  refine lv_aload_n hx hb dX9_clearTally_18 rfl (lv_at hl 0 rfl) ?_
  refine lv_iconst (v := 0) hx hb dX9_clearTally_19 (by decide) ?_
  refine pf_RX9_60 C hP hD hS 0 rfl (Nat.le_of_ble_eq_true rfl) dX9_clearTally_20 (fun H locs hP hD hS => ?_)
  have hP : va_P E.1 classes (WX9_clearTally E q0 q0_town q0_weather q0_rule q0_state q0_owedBy 0 0 0 i_slid o1) H := hP
  have hD : va_D A (WX9_clearTally E q0 q0_town q0_weather q0_rule q0_state q0_owedBy 0 0 0 i_slid o1) := hD
  refine lv_aload_n hx hb dX9_clearTally_23 rfl (lv_at hl 0 rfl) ?_
  refine lv_iconst (v := 0) hx hb dX9_clearTally_24 (by decide) ?_
  refine pf_RX9_63 C hP hD hS 0 rfl (Nat.le_of_ble_eq_true rfl) dX9_clearTally_25 (fun H locs hP hD hS => ?_)
  have hP : va_P E.1 classes (WX9_clearTally E q0 q0_town q0_weather q0_rule q0_state q0_owedBy 0 0 0 0 o1) H := hP
  have hD : va_D A (WX9_clearTally E q0 q0_town q0_weather q0_rule q0_state q0_owedBy 0 0 0 0 o1) := hD
  have hj0 := Option.some.inj hf
  obtain ⟨ha0, hj1⟩ := Prod.mk.inj hj0
  obtain ⟨ha1, hj2⟩ := Prod.mk.inj hj1
  obtain ⟨ha2, hj3⟩ := Prod.mk.inj hj2
  obtain ⟨ha3, hj4⟩ := Prod.mk.inj hj3
  subst ha0
  subst ha1
  subst ha2
  subst ha3
  subst hj4
  exact hret _ _ _ _ dX9_clearTally_28 hP hD hS
theorem q274 : Cond.fieldLink RX9 12 "SnowForSummer$Walk" "state" "LSnowForSummer$State;" ∈ Tg := Tg_mem 274 (by decide +kernel) (by decide +kernel)
theorem gf_RX9_12 {p : Program} {l : Launch} {e : Env} {R : Room} {s : State} {m : MethodId} {args : Array Value} {below : List Frame} {meth : Method} {c : Code} {H : Heap} {locs : List Loc} {cells slots : Nat} {Q : State → Prop} {E : ENV} {cc : ByteArray} {n : Nat} {r : Option FieldType} {pc : Nat} {ls : Array Slot} {rest : List Value} {a : Nat} {ws : va_W} {nm ds : String} {fs : List Value} {A : Nat → Prop} {v : Value} (C : Cx E A ⟨RX9, nm, ds⟩ cc n r p s m args meth c) (hP : va_P E.1 classes ws H) (q0 : Nat) (he : ws[q0]? = some (a, .inr (9, fs))) (hv : fs[3]? = some v) (hdg : decode cc pc = .ok (.getfield 12, 3))
    (kk : W p l e R s m args below meth c H locs cells slots Q (F0 m (pc + 3) ls (v :: rest))) : W p l e R s m args below meth c H locs cells slots Q (F0 m pc ls (.ref a :: rest)) :=
  va_get (C := RX9) (T := TX9) (N := 9) (Ts := wl ⟨RX9, nm, ds⟩ cc n r) C.1 C.2.1 C.2.2.2.2.1 (fun w h => List.mem_cons_of_mem _ (inT9 w h)) C.2.2.2.1 C.2.2.2.2.2.1 hP q0 he rfl 3 (by decide) (C.2.2.2.2.1 _ (List.mem_cons_of_mem _ q274)) (fun _ h9 => h9) hv hdg kk
theorem K_RX9_34 : KV RX9 34 yX5_takeFrom cX5_takeFrom 2 none 1 := ⟨Tg_mem 773 (by decide +kernel) (by decide +kernel), Tg_mem 97 (by decide +kernel) (by decide +kernel), Tg_mem 1043 (by decide +kernel) (by decide +kernel), Tg_mem 771 (by decide +kernel) (by decide +kernel), Tg_mem 772 (by decide +kernel) (by decide +kernel), by decide +kernel⟩
theorem K_RX9_38 : KV RX9 38 yX9_clearTally cX9_clearTally 1 none 0 := ⟨Tg_mem 778 (by decide +kernel) (by decide +kernel), Tg_mem 96 (by decide +kernel) (by decide +kernel), Tg_mem 1044 (by decide +kernel) (by decide +kernel), Tg_mem 776 (by decide +kernel) (by decide +kernel), Tg_mem 777 (by decide +kernel) (by decide +kernel), by decide +kernel⟩
theorem dX9_beginAt_0 : decode cX9_beginAt 0 = .ok (.aload_n 0, 1) := by decide +kernel
theorem dX9_beginAt_1 : decode cX9_beginAt 1 = .ok (.getfield 12, 3) := by decide +kernel
theorem dX9_beginAt_4 : decode cX9_beginAt 4 = .ok (.aload_n 1, 1) := by decide +kernel
theorem dX9_beginAt_5 : decode cX9_beginAt 5 = .ok (.invokevirtual 34, 3) := by decide +kernel
theorem dX9_beginAt_8 : decode cX9_beginAt 8 = .ok (.aload_n 0, 1) := by decide +kernel
theorem dX9_beginAt_9 : decode cX9_beginAt 9 = .ok (.invokevirtual 38, 3) := by decide +kernel
theorem dX9_beginAt_12 : decode cX9_beginAt 12 = .ok (.return_, 1) := by decide +kernel
def WX9_beginAt (E : ENV) (q0 : Nat) (q0_town : Nat) (q0_weather : Nat) (q0_rule : Nat) (q0_state : Nat) (q0_owedBy : Nat) (q0_state_snow : Nat) (q0_state_path : Nat) (q0_state_debt : Nat) (q1 : Nat) (q1_snow : Nat) (q1_path : Nat) (q1_debt : Nat) (i_owed : Int32) (i_slides : Int32) (i_struck : Int32) (i_slid : Int32) (i_state_now : Int32) (a_state_snow : Nat → Int32) (a_state_path : Nat → Int32) (a_state_debt : Nat → Int32) (a_owedBy : Nat → Int32) (i_p1_now : Int32) (a_p1_snow : Nat → Int32) (a_p1_path : Nat → Int32) (a_p1_debt : Nat → Int32) : va_W := [(q0, .inr (9, [.ref q0_town, .ref q0_weather, .ref q0_rule, .ref q0_state, .ref q0_owedBy, .int i_owed, .int i_slides, .int i_struck, .int i_slid])), (q0_state, .inr (5, [.ref q0_state_snow, .ref q0_state_path, .ref q0_state_debt, .int i_state_now])), (q0_state_snow, .inl (E.2.1, 14, .inl a_state_snow)), (q0_state_path, .inl (E.2.1, 7, .inl a_state_path)), (q0_state_debt, .inl (E.2.1, 49, .inl a_state_debt)), (q0_owedBy, .inl (E.2.1, 7, .inl a_owedBy)), (q1, .inr (5, [.ref q1_snow, .ref q1_path, .ref q1_debt, .int i_p1_now])), (q1_snow, .inl (E.2.1, 14, .inl a_p1_snow)), (q1_path, .inl (E.2.1, 7, .inl a_p1_path)), (q1_debt, .inl (E.2.1, 49, .inl a_p1_debt))]
set_option maxHeartbeats 4000000 in
set_option maxRecDepth 20000 in
theorem kX9_beginAt (l : Launch) (E : ENV) (q0 : Nat) (q0_town : Nat) (q0_weather : Nat) (q0_rule : Nat) (q0_state : Nat) (q0_owedBy : Nat) (q0_state_snow : Nat) (q0_state_path : Nat) (q0_state_debt : Nat) (q1 : Nat) (q1_snow : Nat) (q1_path : Nat) (q1_debt : Nat) (i_owed : Int32) (i_slides : Int32) (i_struck : Int32) (i_slid : Int32) (i_state_now : Int32) (a_state_snow : Nat → Int32) (a_state_path : Nat → Int32) (a_state_debt : Nat → Int32) (a_owedBy : Nat → Int32) (i_p1_now : Int32) (a_p1_snow : Nat → Int32) (a_p1_path : Nat → Int32) (a_p1_debt : Nat → Int32) (i_owed9 : Int32) (i_slides9 : Int32) (i_struck9 : Int32) (i_slid9 : Int32) (i_state_now9 : Int32) (a_state_snow9 : Nat → Int32) (a_state_path9 : Nat → Int32) (a_state_debt9 : Nat → Int32) (a_owedBy9 : Nat → Int32) (hf : fX9_beginAt i_owed i_slides i_struck i_slid i_state_now a_state_snow a_state_path a_state_debt a_owedBy i_p1_now a_p1_snow a_p1_path a_p1_debt = some (i_owed9, i_slides9, i_struck9, i_slid9, i_state_now9, a_state_snow9, a_state_path9, a_state_debt9, a_owedBy9)) : CV l E yX9_beginAt cX9_beginAt 2 2 [.ref q0, .ref q1] (WX9_beginAt E q0 q0_town q0_weather q0_rule q0_state q0_owedBy q0_state_snow q0_state_path q0_state_debt q1 q1_snow q1_path q1_debt i_owed i_slides i_struck i_slid i_state_now a_state_snow a_state_path a_state_debt a_owedBy i_p1_now a_p1_snow a_p1_path a_p1_debt) (WX9_beginAt E q0 q0_town q0_weather q0_rule q0_state q0_owedBy q0_state_snow q0_state_path q0_state_debt q1 q1_snow q1_path q1_debt i_owed9 i_slides9 i_struck9 i_slid9 i_state_now9 a_state_snow9 a_state_path9 a_state_debt9 a_owedBy9 i_p1_now a_p1_snow a_p1_path a_p1_debt) := by
  refine begV (by decide +kernel) (Nat.le_of_ble_eq_true rfl) ?_
  intro p e s m args below meth c A Q C hA hret
  have hx := C.1
  have hb := C.2.1
  intro H locs ls hl hP hD hS
  have hl : lv_has ls 2 [(0, .ref q0), (1, .ref q1)] := hl
  unfold fX9_beginAt at hf
  refine lv_aload_n hx hb dX9_beginAt_0 rfl (lv_at hl 0 rfl) ?_
  refine gf_RX9_12 C hP 0 rfl rfl dX9_beginAt_1 ?_
  refine lv_aload_n hx hb dX9_beginAt_4 rfl (lv_at hl 1 rfl) ?_
  obtain ⟨o1, hg2, hf⟩ := bd_some hf
  refine k_VV (As := [.ref q1]) C K_RX9_34 (Nat.le_of_ble_eq_true rfl) (Nat.le_of_ble_eq_true rfl) (kX5_takeFrom l E q0_state q0_state_snow q0_state_path q0_state_debt q1 q1_snow q1_path q1_debt i_state_now a_state_snow a_state_path a_state_debt i_p1_now a_p1_snow a_p1_path a_p1_debt o1.1 o1.2.1 o1.2.2.1 o1.2.2.2 hg2) [1, 2, 3, 4, 6, 7, 8, 9] rfl rfl rfl (ci := 5) rfl rfl (q0 := 0) rfl hP hD hS hA hl.1 (Nat.le_of_ble_eq_true rfl) rfl dX9_beginAt_5 (fun H locs hP hD hS => ?_)
  have hP : va_P E.1 classes (WX9_beginAt E q0 q0_town q0_weather q0_rule q0_state q0_owedBy q0_state_snow q0_state_path q0_state_debt q1 q1_snow q1_path q1_debt i_owed i_slides i_struck i_slid o1.1 o1.2.1 o1.2.2.1 o1.2.2.2 a_owedBy i_p1_now a_p1_snow a_p1_path a_p1_debt) H := hP
  have hD : va_D A (WX9_beginAt E q0 q0_town q0_weather q0_rule q0_state q0_owedBy q0_state_snow q0_state_path q0_state_debt q1 q1_snow q1_path q1_debt i_owed i_slides i_struck i_slid o1.1 o1.2.1 o1.2.2.1 o1.2.2.2 a_owedBy i_p1_now a_p1_snow a_p1_path a_p1_debt) := hD
  refine lv_aload_n hx hb dX9_beginAt_8 rfl (lv_at hl 0 rfl) ?_
  obtain ⟨o3, hg4, hf⟩ := bd_some hf
  refine k_VV (As := []) C K_RX9_38 (Nat.le_of_ble_eq_true rfl) (Nat.le_of_ble_eq_true rfl) (kX9_clearTally l E q0 q0_town q0_weather q0_rule q0_state q0_owedBy i_owed i_slides i_struck i_slid a_owedBy o3.1 o3.2.1 o3.2.2.1 o3.2.2.2.1 o3.2.2.2.2 hg4) [0, 5] rfl rfl rfl (ci := 9) rfl rfl (q0 := 0) rfl hP hD hS hA hl.1 (Nat.le_of_ble_eq_true rfl) rfl dX9_beginAt_9 (fun H locs hP hD hS => ?_)
  have hP : va_P E.1 classes (WX9_beginAt E q0 q0_town q0_weather q0_rule q0_state q0_owedBy q0_state_snow q0_state_path q0_state_debt q1 q1_snow q1_path q1_debt o3.1 o3.2.1 o3.2.2.1 o3.2.2.2.1 o1.1 o1.2.1 o1.2.2.1 o1.2.2.2 o3.2.2.2.2 i_p1_now a_p1_snow a_p1_path a_p1_debt) H := hP
  have hD : va_D A (WX9_beginAt E q0 q0_town q0_weather q0_rule q0_state q0_owedBy q0_state_snow q0_state_path q0_state_debt q1 q1_snow q1_path q1_debt o3.1 o3.2.1 o3.2.2.1 o3.2.2.2.1 o1.1 o1.2.1 o1.2.2.1 o1.2.2.2 o3.2.2.2.2 i_p1_now a_p1_snow a_p1_path a_p1_debt) := hD
  have hj0 := Option.some.inj hf
  obtain ⟨ha0, hj1⟩ := Prod.mk.inj hj0
  obtain ⟨ha1, hj2⟩ := Prod.mk.inj hj1
  obtain ⟨ha2, hj3⟩ := Prod.mk.inj hj2
  obtain ⟨ha3, hj4⟩ := Prod.mk.inj hj3
  obtain ⟨ha4, hj5⟩ := Prod.mk.inj hj4
  obtain ⟨ha5, hj6⟩ := Prod.mk.inj hj5
  obtain ⟨ha6, hj7⟩ := Prod.mk.inj hj6
  obtain ⟨ha7, hj8⟩ := Prod.mk.inj hj7
  subst ha0
  subst ha1
  subst ha2
  subst ha3
  subst ha4
  subst ha5
  subst ha6
  subst ha7
  subst hj8
  exact hret _ _ _ _ dX9_beginAt_12 hP hD hS
theorem q1126 : Cond.methodLink RX9 66 arraycopyName ∈ Tg := Tg_mem 1126 (by decide +kernel) (by decide +kernel)
theorem gf_RX9_53 {p : Program} {l : Launch} {e : Env} {R : Room} {s : State} {m : MethodId} {args : Array Value} {below : List Frame} {meth : Method} {c : Code} {H : Heap} {locs : List Loc} {cells slots : Nat} {Q : State → Prop} {E : ENV} {cc : ByteArray} {n : Nat} {r : Option FieldType} {pc : Nat} {ls : Array Slot} {rest : List Value} {a : Nat} {ws : va_W} {nm ds : String} {fs : List Value} {A : Nat → Prop} {v : Value} (C : Cx E A ⟨RX9, nm, ds⟩ cc n r p s m args meth c) (hP : va_P E.1 classes ws H) (q0 : Nat) (he : ws[q0]? = some (a, .inr (9, fs))) (hv : fs[5]? = some v) (hdg : decode cc pc = .ok (.getfield 53, 3))
    (kk : W p l e R s m args below meth c H locs cells slots Q (F0 m (pc + 3) ls (v :: rest))) : W p l e R s m args below meth c H locs cells slots Q (F0 m pc ls (.ref a :: rest)) :=
  va_get (C := RX9) (T := TX9) (N := 9) (Ts := wl ⟨RX9, nm, ds⟩ cc n r) C.1 C.2.1 C.2.2.2.2.1 (fun w h => List.mem_cons_of_mem _ (inT9 w h)) C.2.2.2.1 C.2.2.2.2.2.1 hP q0 he rfl 5 (by decide) (C.2.2.2.2.1 _ (List.mem_cons_of_mem _ q280)) (fun _ h9 => h9) hv hdg kk
theorem dX9_follow_0 : decode cX9_follow 0 = .ok (.aload_n 0, 1) := by decide +kernel
theorem dX9_follow_1 : decode cX9_follow 1 = .ok (.getfield 12, 3) := by decide +kernel
theorem dX9_follow_4 : decode cX9_follow 4 = .ok (.aload_n 1, 1) := by decide +kernel
theorem dX9_follow_5 : decode cX9_follow 5 = .ok (.getfield 12, 3) := by decide +kernel
theorem dX9_follow_8 : decode cX9_follow 8 = .ok (.invokevirtual 34, 3) := by decide +kernel
theorem dX9_follow_11 : decode cX9_follow 11 = .ok (.aload_n 1, 1) := by decide +kernel
theorem dX9_follow_12 : decode cX9_follow 12 = .ok (.getfield 18, 3) := by decide +kernel
theorem dX9_follow_15 : decode cX9_follow 15 = .ok (.iconst 0, 1) := by decide +kernel
theorem dX9_follow_16 : decode cX9_follow 16 = .ok (.aload_n 0, 1) := by decide +kernel
theorem dX9_follow_17 : decode cX9_follow 17 = .ok (.getfield 18, 3) := by decide +kernel
theorem dX9_follow_20 : decode cX9_follow 20 = .ok (.iconst 0, 1) := by decide +kernel
theorem dX9_follow_21 : decode cX9_follow 21 = .ok (.bipush 7, 2) := by decide +kernel
theorem dX9_follow_23 : decode cX9_follow 23 = .ok (.invokestatic 66, 3) := by decide +kernel
theorem dX9_follow_26 : decode cX9_follow 26 = .ok (.aload_n 0, 1) := by decide +kernel
theorem dX9_follow_27 : decode cX9_follow 27 = .ok (.aload_n 1, 1) := by decide +kernel
theorem dX9_follow_28 : decode cX9_follow 28 = .ok (.getfield 53, 3) := by decide +kernel
theorem dX9_follow_31 : decode cX9_follow 31 = .ok (.putfield 53, 3) := by decide +kernel
theorem dX9_follow_34 : decode cX9_follow 34 = .ok (.return_, 1) := by decide +kernel
def WX9_follow (E : ENV) (q0 : Nat) (q0_town : Nat) (q0_weather : Nat) (q0_rule : Nat) (q0_state : Nat) (q0_owedBy : Nat) (q0_state_snow : Nat) (q0_state_path : Nat) (q0_state_debt : Nat) (q1 : Nat) (q1_town : Nat) (q1_weather : Nat) (q1_rule : Nat) (q1_state : Nat) (q1_owedBy : Nat) (q1_state_snow : Nat) (q1_state_path : Nat) (q1_state_debt : Nat) (i_owed : Int32) (i_slides : Int32) (i_struck : Int32) (i_slid : Int32) (i_state_now : Int32) (a_state_snow : Nat → Int32) (a_state_path : Nat → Int32) (a_state_debt : Nat → Int32) (a_owedBy : Nat → Int32) (i_p1_owed : Int32) (i_p1_slides : Int32) (i_p1_struck : Int32) (i_p1_slid : Int32) (i_p1_state_now : Int32) (a_p1_state_snow : Nat → Int32) (a_p1_state_path : Nat → Int32) (a_p1_state_debt : Nat → Int32) (a_p1_owedBy : Nat → Int32) : va_W := [(q0, .inr (9, [.ref q0_town, .ref q0_weather, .ref q0_rule, .ref q0_state, .ref q0_owedBy, .int i_owed, .int i_slides, .int i_struck, .int i_slid])), (q0_state, .inr (5, [.ref q0_state_snow, .ref q0_state_path, .ref q0_state_debt, .int i_state_now])), (q0_state_snow, .inl (E.2.1, 14, .inl a_state_snow)), (q0_state_path, .inl (E.2.1, 7, .inl a_state_path)), (q0_state_debt, .inl (E.2.1, 49, .inl a_state_debt)), (q0_owedBy, .inl (E.2.1, 7, .inl a_owedBy)), (q1, .inr (9, [.ref q1_town, .ref q1_weather, .ref q1_rule, .ref q1_state, .ref q1_owedBy, .int i_p1_owed, .int i_p1_slides, .int i_p1_struck, .int i_p1_slid])), (q1_state, .inr (5, [.ref q1_state_snow, .ref q1_state_path, .ref q1_state_debt, .int i_p1_state_now])), (q1_state_snow, .inl (E.2.1, 14, .inl a_p1_state_snow)), (q1_state_path, .inl (E.2.1, 7, .inl a_p1_state_path)), (q1_state_debt, .inl (E.2.1, 49, .inl a_p1_state_debt)), (q1_owedBy, .inl (E.2.1, 7, .inl a_p1_owedBy))]
set_option maxHeartbeats 4000000 in
set_option maxRecDepth 20000 in
theorem kX9_follow (l : Launch) (E : ENV) (q0 : Nat) (q0_town : Nat) (q0_weather : Nat) (q0_rule : Nat) (q0_state : Nat) (q0_owedBy : Nat) (q0_state_snow : Nat) (q0_state_path : Nat) (q0_state_debt : Nat) (q1 : Nat) (q1_town : Nat) (q1_weather : Nat) (q1_rule : Nat) (q1_state : Nat) (q1_owedBy : Nat) (q1_state_snow : Nat) (q1_state_path : Nat) (q1_state_debt : Nat) (i_owed : Int32) (i_slides : Int32) (i_struck : Int32) (i_slid : Int32) (i_state_now : Int32) (a_state_snow : Nat → Int32) (a_state_path : Nat → Int32) (a_state_debt : Nat → Int32) (a_owedBy : Nat → Int32) (i_p1_owed : Int32) (i_p1_slides : Int32) (i_p1_struck : Int32) (i_p1_slid : Int32) (i_p1_state_now : Int32) (a_p1_state_snow : Nat → Int32) (a_p1_state_path : Nat → Int32) (a_p1_state_debt : Nat → Int32) (a_p1_owedBy : Nat → Int32) (i_owed9 : Int32) (i_state_now9 : Int32) (a_state_snow9 : Nat → Int32) (a_state_path9 : Nat → Int32) (a_state_debt9 : Nat → Int32) (a_owedBy9 : Nat → Int32) (hf : fX9_follow i_owed i_state_now a_state_snow a_state_path a_state_debt a_owedBy i_p1_owed i_p1_state_now a_p1_state_snow a_p1_state_path a_p1_state_debt a_p1_owedBy = some (i_owed9, i_state_now9, a_state_snow9, a_state_path9, a_state_debt9, a_owedBy9)) : CV l E yX9_follow cX9_follow 2 2 [.ref q0, .ref q1] (WX9_follow E q0 q0_town q0_weather q0_rule q0_state q0_owedBy q0_state_snow q0_state_path q0_state_debt q1 q1_town q1_weather q1_rule q1_state q1_owedBy q1_state_snow q1_state_path q1_state_debt i_owed i_slides i_struck i_slid i_state_now a_state_snow a_state_path a_state_debt a_owedBy i_p1_owed i_p1_slides i_p1_struck i_p1_slid i_p1_state_now a_p1_state_snow a_p1_state_path a_p1_state_debt a_p1_owedBy) (WX9_follow E q0 q0_town q0_weather q0_rule q0_state q0_owedBy q0_state_snow q0_state_path q0_state_debt q1 q1_town q1_weather q1_rule q1_state q1_owedBy q1_state_snow q1_state_path q1_state_debt i_owed9 i_slides i_struck i_slid i_state_now9 a_state_snow9 a_state_path9 a_state_debt9 a_owedBy9 i_p1_owed i_p1_slides i_p1_struck i_p1_slid i_p1_state_now a_p1_state_snow a_p1_state_path a_p1_state_debt a_p1_owedBy) := by
  refine begV (by decide +kernel) (Nat.le_of_ble_eq_true rfl) ?_
  intro p e s m args below meth c A Q C hA hret
  have hx := C.1
  have hb := C.2.1
  intro H locs ls hl hP hD hS
  have hl : lv_has ls 2 [(0, .ref q0), (1, .ref q1)] := hl
  unfold fX9_follow at hf
  refine lv_aload_n hx hb dX9_follow_0 rfl (lv_at hl 0 rfl) ?_
  refine gf_RX9_12 C hP 0 rfl rfl dX9_follow_1 ?_
  refine lv_aload_n hx hb dX9_follow_4 rfl (lv_at hl 1 rfl) ?_
  refine gf_RX9_12 C hP 6 rfl rfl dX9_follow_5 ?_
  obtain ⟨o1, hg2, hf⟩ := bd_some hf
  refine k_VV (As := [.ref q1_state]) C K_RX9_34 (Nat.le_of_ble_eq_true rfl) (Nat.le_of_ble_eq_true rfl) (kX5_takeFrom l E q0_state q0_state_snow q0_state_path q0_state_debt q1_state q1_state_snow q1_state_path q1_state_debt i_state_now a_state_snow a_state_path a_state_debt i_p1_state_now a_p1_state_snow a_p1_state_path a_p1_state_debt o1.1 o1.2.1 o1.2.2.1 o1.2.2.2 hg2) [1, 2, 3, 4, 7, 8, 9, 10] rfl rfl rfl (ci := 5) rfl rfl (q0 := 0) rfl hP hD hS hA hl.1 (Nat.le_of_ble_eq_true rfl) rfl dX9_follow_8 (fun H locs hP hD hS => ?_)
  have hP : va_P E.1 classes (WX9_follow E q0 q0_town q0_weather q0_rule q0_state q0_owedBy q0_state_snow q0_state_path q0_state_debt q1 q1_town q1_weather q1_rule q1_state q1_owedBy q1_state_snow q1_state_path q1_state_debt i_owed i_slides i_struck i_slid o1.1 o1.2.1 o1.2.2.1 o1.2.2.2 a_owedBy i_p1_owed i_p1_slides i_p1_struck i_p1_slid i_p1_state_now a_p1_state_snow a_p1_state_path a_p1_state_debt a_p1_owedBy) H := hP
  have hD : va_D A (WX9_follow E q0 q0_town q0_weather q0_rule q0_state q0_owedBy q0_state_snow q0_state_path q0_state_debt q1 q1_town q1_weather q1_rule q1_state q1_owedBy q1_state_snow q1_state_path q1_state_debt i_owed i_slides i_struck i_slid o1.1 o1.2.1 o1.2.2.1 o1.2.2.2 a_owedBy i_p1_owed i_p1_slides i_p1_struck i_p1_slid i_p1_state_now a_p1_state_snow a_p1_state_path a_p1_state_debt a_p1_owedBy) := hD
  refine lv_aload_n hx hb dX9_follow_11 rfl (lv_at hl 1 rfl) ?_
  refine gf_RX9_18 C hP 6 rfl rfl dX9_follow_12 ?_
  refine lv_iconst (v := 0) hx hb dX9_follow_15 (by decide) ?_
  refine lv_aload_n hx hb dX9_follow_16 rfl (lv_at hl 0 rfl) ?_
  refine gf_RX9_18 C hP 0 rfl rfl dX9_follow_17 ?_
  refine lv_iconst (v := 0) hx hb dX9_follow_20 (by decide) ?_
  refine lv_bipush (v := 7) hx hb dX9_follow_21 (by decide) ?_
  refine r_cpy C q1126 (Nat.le_of_ble_eq_true rfl) hl.1 (Nat.le_of_ble_eq_true rfl) hP hD hS 11 5 7 rfl rfl (by decide) (by decide) (Nat.le_of_ble_eq_true rfl) (Nat.le_of_ble_eq_true rfl) dX9_follow_23 (fun H locs hP hD hS => ?_)
  have hP : va_P E.1 classes (WX9_follow E q0 q0_town q0_weather q0_rule q0_state q0_owedBy q0_state_snow q0_state_path q0_state_debt q1 q1_town q1_weather q1_rule q1_state q1_owedBy q1_state_snow q1_state_path q1_state_debt i_owed i_slides i_struck i_slid o1.1 o1.2.1 o1.2.2.1 o1.2.2.2 ((cpy 7 a_p1_owedBy a_owedBy)) i_p1_owed i_p1_slides i_p1_struck i_p1_slid i_p1_state_now a_p1_state_snow a_p1_state_path a_p1_state_debt a_p1_owedBy) H := hP
  have hD : va_D A (WX9_follow E q0 q0_town q0_weather q0_rule q0_state q0_owedBy q0_state_snow q0_state_path q0_state_debt q1 q1_town q1_weather q1_rule q1_state q1_owedBy q1_state_snow q1_state_path q1_state_debt i_owed i_slides i_struck i_slid o1.1 o1.2.1 o1.2.2.1 o1.2.2.2 ((cpy 7 a_p1_owedBy a_owedBy)) i_p1_owed i_p1_slides i_p1_struck i_p1_slid i_p1_state_now a_p1_state_snow a_p1_state_path a_p1_state_debt a_p1_owedBy) := hD
  refine lv_aload_n hx hb dX9_follow_26 rfl (lv_at hl 0 rfl) ?_
  refine lv_aload_n hx hb dX9_follow_27 rfl (lv_at hl 1 rfl) ?_
  refine gf_RX9_53 C hP 6 rfl rfl dX9_follow_28 ?_
  refine pf_RX9_53 C hP hD hS 0 rfl (Nat.le_of_ble_eq_true rfl) dX9_follow_31 (fun H locs hP hD hS => ?_)
  have hP : va_P E.1 classes (WX9_follow E q0 q0_town q0_weather q0_rule q0_state q0_owedBy q0_state_snow q0_state_path q0_state_debt q1 q1_town q1_weather q1_rule q1_state q1_owedBy q1_state_snow q1_state_path q1_state_debt i_p1_owed i_slides i_struck i_slid o1.1 o1.2.1 o1.2.2.1 o1.2.2.2 ((cpy 7 a_p1_owedBy a_owedBy)) i_p1_owed i_p1_slides i_p1_struck i_p1_slid i_p1_state_now a_p1_state_snow a_p1_state_path a_p1_state_debt a_p1_owedBy) H := hP
  have hD : va_D A (WX9_follow E q0 q0_town q0_weather q0_rule q0_state q0_owedBy q0_state_snow q0_state_path q0_state_debt q1 q1_town q1_weather q1_rule q1_state q1_owedBy q1_state_snow q1_state_path q1_state_debt i_p1_owed i_slides i_struck i_slid o1.1 o1.2.1 o1.2.2.1 o1.2.2.2 ((cpy 7 a_p1_owedBy a_owedBy)) i_p1_owed i_p1_slides i_p1_struck i_p1_slid i_p1_state_now a_p1_state_snow a_p1_state_path a_p1_state_debt a_p1_owedBy) := hD
  have hj0 := Option.some.inj hf
  obtain ⟨ha0, hj1⟩ := Prod.mk.inj hj0
  obtain ⟨ha1, hj2⟩ := Prod.mk.inj hj1
  obtain ⟨ha2, hj3⟩ := Prod.mk.inj hj2
  obtain ⟨ha3, hj4⟩ := Prod.mk.inj hj3
  obtain ⟨ha4, hj5⟩ := Prod.mk.inj hj4
  subst ha0
  subst ha1
  subst ha2
  subst ha3
  subst ha4
  subst hj5
  exact hret _ _ _ _ dX9_follow_34 hP hD hS
theorem q271 : Cond.fieldLink RX9 22 "SnowForSummer$Walk" "town" "LSnowForSummer$Town;" ∈ Tg := Tg_mem 271 (by decide +kernel) (by decide +kernel)
theorem gf_RX9_22 {p : Program} {l : Launch} {e : Env} {R : Room} {s : State} {m : MethodId} {args : Array Value} {below : List Frame} {meth : Method} {c : Code} {H : Heap} {locs : List Loc} {cells slots : Nat} {Q : State → Prop} {E : ENV} {cc : ByteArray} {n : Nat} {r : Option FieldType} {pc : Nat} {ls : Array Slot} {rest : List Value} {a : Nat} {ws : va_W} {nm ds : String} {fs : List Value} {A : Nat → Prop} {v : Value} (C : Cx E A ⟨RX9, nm, ds⟩ cc n r p s m args meth c) (hP : va_P E.1 classes ws H) (q0 : Nat) (he : ws[q0]? = some (a, .inr (9, fs))) (hv : fs[0]? = some v) (hdg : decode cc pc = .ok (.getfield 22, 3))
    (kk : W p l e R s m args below meth c H locs cells slots Q (F0 m (pc + 3) ls (v :: rest))) : W p l e R s m args below meth c H locs cells slots Q (F0 m pc ls (.ref a :: rest)) :=
  va_get (C := RX9) (T := TX9) (N := 9) (Ts := wl ⟨RX9, nm, ds⟩ cc n r) C.1 C.2.1 C.2.2.2.2.1 (fun w h => List.mem_cons_of_mem _ (inT9 w h)) C.2.2.2.1 C.2.2.2.2.2.1 hP q0 he rfl 0 (by decide) (C.2.2.2.2.1 _ (List.mem_cons_of_mem _ q271)) (fun _ h9 => h9) hv hdg kk
theorem q160 : Cond.fieldLinkNest RX9 91 "SnowForSummer$Town" "houses" "I" "SnowForSummer" ∈ NL := NL_mem 160 (by decide +kernel) (by decide +kernel)
theorem gf_RX9_91 {p : Program} {l : Launch} {e : Env} {R : Room} {s : State} {m : MethodId} {args : Array Value} {below : List Frame} {meth : Method} {c : Code} {H : Heap} {locs : List Loc} {cells slots : Nat} {Q : State → Prop} {E : ENV} {cc : ByteArray} {n : Nat} {r : Option FieldType} {pc : Nat} {ls : Array Slot} {rest : List Value} {a : Nat} {ws : va_W} {nm ds : String} {fs : List Value} {A : Nat → Prop} {v : Value} (C : Cx E A ⟨RX9, nm, ds⟩ cc n r p s m args meth c) (hP : va_P E.1 classes ws H) (q0 : Nat) (he : ws[q0]? = some (a, .inr (7, fs))) (hv : fs[3]? = some v) (hdg : decode cc pc = .ok (.getfield 91, 3))
    (kk : W p l e R s m args below meth c H locs cells slots Q (F0 m (pc + 3) ls (v :: rest))) : W p l e R s m args below meth c H locs cells slots Q (F0 m pc ls (.ref a :: rest)) :=
  va_getN (C := RX7) (T := TX7) (N := 4) (Ts := wl ⟨RX9, nm, ds⟩ cc n r) C.1 C.2.1 C.2.2.2.2.1 (fun w h => List.mem_cons_of_mem _ (inT7 w h)) C.2.2.2.1 C.2.2.2.2.2.1 hP q0 he rfl 3 (by decide) (va_Nw.use rfl (C.2.2.2.2.2.2.2.2.1 _ q160)) (fun _ h9 => h9) hv hdg kk
theorem q251 : Cond.fieldLinkNest RX9 96 "SnowForSummer$State" "snow" "[I" "SnowForSummer" ∈ NL := NL_mem 251 (by decide +kernel) (by decide +kernel)
theorem gf_RX9_96 {p : Program} {l : Launch} {e : Env} {R : Room} {s : State} {m : MethodId} {args : Array Value} {below : List Frame} {meth : Method} {c : Code} {H : Heap} {locs : List Loc} {cells slots : Nat} {Q : State → Prop} {E : ENV} {cc : ByteArray} {n : Nat} {r : Option FieldType} {pc : Nat} {ls : Array Slot} {rest : List Value} {a : Nat} {ws : va_W} {nm ds : String} {fs : List Value} {A : Nat → Prop} {v : Value} (C : Cx E A ⟨RX9, nm, ds⟩ cc n r p s m args meth c) (hP : va_P E.1 classes ws H) (q0 : Nat) (he : ws[q0]? = some (a, .inr (5, fs))) (hv : fs[0]? = some v) (hdg : decode cc pc = .ok (.getfield 96, 3))
    (kk : W p l e R s m args below meth c H locs cells slots Q (F0 m (pc + 3) ls (v :: rest))) : W p l e R s m args below meth c H locs cells slots Q (F0 m pc ls (.ref a :: rest)) :=
  va_getN (C := RX5) (T := TX5) (N := 4) (Ts := wl ⟨RX9, nm, ds⟩ cc n r) C.1 C.2.1 C.2.2.2.2.1 (fun w h => List.mem_cons_of_mem _ (inT5 w h)) C.2.2.2.1 C.2.2.2.2.2.1 hP q0 he rfl 0 (by decide) (va_Nw.use rfl (C.2.2.2.2.2.2.2.2.1 _ q251)) (fun _ h9 => h9) hv hdg kk
theorem K_RX9_109 : KSN RX9 109 yX5_lying "SnowForSummer" cX5_lying 1 (some .int) 1 := ⟨Tg_mem 796 (by decide +kernel) (by decide +kernel), Tg_mem 97 (by decide +kernel) (by decide +kernel), NL_mem 794 (by decide +kernel) (by decide +kernel), Tg_mem 795 (by decide +kernel) (by decide +kernel), by decide +kernel⟩
theorem q254 : Cond.fieldLinkNest RX9 112 "SnowForSummer$State" "path" "[I" "SnowForSummer" ∈ NL := NL_mem 254 (by decide +kernel) (by decide +kernel)
theorem gf_RX9_112 {p : Program} {l : Launch} {e : Env} {R : Room} {s : State} {m : MethodId} {args : Array Value} {below : List Frame} {meth : Method} {c : Code} {H : Heap} {locs : List Loc} {cells slots : Nat} {Q : State → Prop} {E : ENV} {cc : ByteArray} {n : Nat} {r : Option FieldType} {pc : Nat} {ls : Array Slot} {rest : List Value} {a : Nat} {ws : va_W} {nm ds : String} {fs : List Value} {A : Nat → Prop} {v : Value} (C : Cx E A ⟨RX9, nm, ds⟩ cc n r p s m args meth c) (hP : va_P E.1 classes ws H) (q0 : Nat) (he : ws[q0]? = some (a, .inr (5, fs))) (hv : fs[1]? = some v) (hdg : decode cc pc = .ok (.getfield 112, 3))
    (kk : W p l e R s m args below meth c H locs cells slots Q (F0 m (pc + 3) ls (v :: rest))) : W p l e R s m args below meth c H locs cells slots Q (F0 m pc ls (.ref a :: rest)) :=
  va_getN (C := RX5) (T := TX5) (N := 4) (Ts := wl ⟨RX9, nm, ds⟩ cc n r) C.1 C.2.1 C.2.2.2.2.1 (fun w h => List.mem_cons_of_mem _ (inT5 w h)) C.2.2.2.1 C.2.2.2.2.2.1 hP q0 he rfl 1 (by decide) (va_Nw.use rfl (C.2.2.2.2.2.2.2.2.1 _ q254)) (fun _ h9 => h9) hv hdg kk
theorem dX9_fallOnTown_0 : decode cX9_fallOnTown 0 = .ok (.iconst 0, 1) := by decide +kernel
theorem dX9_fallOnTown_1 : decode cX9_fallOnTown 1 = .ok (.istore_n 2, 1) := by decide +kernel
theorem dX9_fallOnTown_2 : decode cX9_fallOnTown 2 = .ok (.iload_n 2, 1) := by decide +kernel
theorem dX9_fallOnTown_3 : decode cX9_fallOnTown 3 = .ok (.iconst 2, 1) := by decide +kernel
theorem dX9_fallOnTown_4 : decode cX9_fallOnTown 4 = .ok (.aload_n 0, 1) := by decide +kernel
theorem dX9_fallOnTown_5 : decode cX9_fallOnTown 5 = .ok (.getfield 22, 3) := by decide +kernel
theorem dX9_fallOnTown_8 : decode cX9_fallOnTown 8 = .ok (.getfield 91, 3) := by decide +kernel
theorem dX9_fallOnTown_11 : decode cX9_fallOnTown 11 = .ok (.imul, 1) := by decide +kernel
theorem dX9_fallOnTown_12 : decode cX9_fallOnTown 12 = .ok (.if_icmp .ge 32, 3) := by decide +kernel
theorem dX9_fallOnTown_15 : decode cX9_fallOnTown 15 = .ok (.aload_n 0, 1) := by decide +kernel
theorem dX9_fallOnTown_16 : decode cX9_fallOnTown 16 = .ok (.getfield 12, 3) := by decide +kernel
theorem dX9_fallOnTown_19 : decode cX9_fallOnTown 19 = .ok (.getfield 96, 3) := by decide +kernel
theorem dX9_fallOnTown_22 : decode cX9_fallOnTown 22 = .ok (.iload_n 2, 1) := by decide +kernel
theorem dX9_fallOnTown_23 : decode cX9_fallOnTown 23 = .ok (.aload_n 0, 1) := by decide +kernel
theorem dX9_fallOnTown_24 : decode cX9_fallOnTown 24 = .ok (.getfield 12, 3) := by decide +kernel
theorem dX9_fallOnTown_27 : decode cX9_fallOnTown 27 = .ok (.getfield 96, 3) := by decide +kernel
theorem dX9_fallOnTown_30 : decode cX9_fallOnTown 30 = .ok (.iload_n 2, 1) := by decide +kernel
theorem dX9_fallOnTown_31 : decode cX9_fallOnTown 31 = .ok (.iaload, 1) := by decide +kernel
theorem dX9_fallOnTown_32 : decode cX9_fallOnTown 32 = .ok (.iload_n 1, 1) := by decide +kernel
theorem dX9_fallOnTown_33 : decode cX9_fallOnTown 33 = .ok (.iadd, 1) := by decide +kernel
theorem dX9_fallOnTown_34 : decode cX9_fallOnTown 34 = .ok (.invokestatic 109, 3) := by decide +kernel
theorem dX9_fallOnTown_37 : decode cX9_fallOnTown 37 = .ok (.iastore, 1) := by decide +kernel
theorem dX9_fallOnTown_38 : decode cX9_fallOnTown 38 = .ok (.iinc 2 1, 3) := by decide +kernel
theorem dX9_fallOnTown_41 : decode cX9_fallOnTown 41 = .ok (.goto (-39), 3) := by decide +kernel
theorem dX9_fallOnTown_44 : decode cX9_fallOnTown 44 = .ok (.iconst 0, 1) := by decide +kernel
theorem dX9_fallOnTown_45 : decode cX9_fallOnTown 45 = .ok (.istore_n 2, 1) := by decide +kernel
theorem dX9_fallOnTown_46 : decode cX9_fallOnTown 46 = .ok (.iload_n 2, 1) := by decide +kernel
theorem dX9_fallOnTown_47 : decode cX9_fallOnTown 47 = .ok (.aload_n 0, 1) := by decide +kernel
theorem dX9_fallOnTown_48 : decode cX9_fallOnTown 48 = .ok (.getfield 22, 3) := by decide +kernel
theorem dX9_fallOnTown_51 : decode cX9_fallOnTown 51 = .ok (.getfield 91, 3) := by decide +kernel
theorem dX9_fallOnTown_54 : decode cX9_fallOnTown 54 = .ok (.if_icmp .ge 32, 3) := by decide +kernel
theorem dX9_fallOnTown_57 : decode cX9_fallOnTown 57 = .ok (.aload_n 0, 1) := by decide +kernel
theorem dX9_fallOnTown_58 : decode cX9_fallOnTown 58 = .ok (.getfield 12, 3) := by decide +kernel
theorem dX9_fallOnTown_61 : decode cX9_fallOnTown 61 = .ok (.getfield 112, 3) := by decide +kernel
theorem dX9_fallOnTown_64 : decode cX9_fallOnTown 64 = .ok (.iload_n 2, 1) := by decide +kernel
theorem dX9_fallOnTown_65 : decode cX9_fallOnTown 65 = .ok (.aload_n 0, 1) := by decide +kernel
theorem dX9_fallOnTown_66 : decode cX9_fallOnTown 66 = .ok (.getfield 12, 3) := by decide +kernel
theorem dX9_fallOnTown_69 : decode cX9_fallOnTown 69 = .ok (.getfield 112, 3) := by decide +kernel
theorem dX9_fallOnTown_72 : decode cX9_fallOnTown 72 = .ok (.iload_n 2, 1) := by decide +kernel
theorem dX9_fallOnTown_73 : decode cX9_fallOnTown 73 = .ok (.iaload, 1) := by decide +kernel
theorem dX9_fallOnTown_74 : decode cX9_fallOnTown 74 = .ok (.iload_n 1, 1) := by decide +kernel
theorem dX9_fallOnTown_75 : decode cX9_fallOnTown 75 = .ok (.iadd, 1) := by decide +kernel
theorem dX9_fallOnTown_76 : decode cX9_fallOnTown 76 = .ok (.invokestatic 109, 3) := by decide +kernel
theorem dX9_fallOnTown_79 : decode cX9_fallOnTown 79 = .ok (.iastore, 1) := by decide +kernel
theorem dX9_fallOnTown_80 : decode cX9_fallOnTown 80 = .ok (.iinc 2 1, 3) := by decide +kernel
theorem dX9_fallOnTown_83 : decode cX9_fallOnTown 83 = .ok (.goto (-37), 3) := by decide +kernel
theorem dX9_fallOnTown_86 : decode cX9_fallOnTown 86 = .ok (.return_, 1) := by decide +kernel
def WX9_fallOnTown (E : ENV) (q0 : Nat) (q0_town : Nat) (q0_weather : Nat) (q0_rule : Nat) (q0_state : Nat) (q0_owedBy : Nat) (q0_town_hold : Nat) (q0_town_below : Nat) (q0_town_hay : Nat) (q0_state_snow : Nat) (q0_state_path : Nat) (q0_state_debt : Nat) (i_owed : Int32) (i_slides : Int32) (i_struck : Int32) (i_slid : Int32) (i_town_houses : Int32) (i_state_now : Int32) (a_state_snow : Nat → Int32) (a_state_path : Nat → Int32) : va_W := [(q0, .inr (9, [.ref q0_town, .ref q0_weather, .ref q0_rule, .ref q0_state, .ref q0_owedBy, .int i_owed, .int i_slides, .int i_struck, .int i_slid])), (q0_town, .inr (7, [.ref q0_town_hold, .ref q0_town_below, .ref q0_town_hay, .int i_town_houses])), (q0_state, .inr (5, [.ref q0_state_snow, .ref q0_state_path, .ref q0_state_debt, .int i_state_now])), (q0_state_snow, .inl (E.2.1, 14, .inl a_state_snow)), (q0_state_path, .inl (E.2.1, 7, .inl a_state_path))]
set_option maxHeartbeats 4000000 in
set_option maxRecDepth 20000 in
theorem kX9_fallOnTown (l : Launch) (E : ENV) (q0 : Nat) (q0_town : Nat) (q0_weather : Nat) (q0_rule : Nat) (q0_state : Nat) (q0_owedBy : Nat) (q0_town_hold : Nat) (q0_town_below : Nat) (q0_town_hay : Nat) (q0_state_snow : Nat) (q0_state_path : Nat) (q0_state_debt : Nat) (i_owed : Int32) (i_slides : Int32) (i_struck : Int32) (i_slid : Int32) (i_town_houses : Int32) (i_state_now : Int32) (a_state_snow : Nat → Int32) (a_state_path : Nat → Int32) (p1 : Int32) (a_state_snow9 : Nat → Int32) (a_state_path9 : Nat → Int32) (hf : fX9_fallOnTown i_town_houses a_state_snow a_state_path p1 = some (a_state_snow9, a_state_path9)) : CV l E yX9_fallOnTown cX9_fallOnTown 3 2 [.ref q0, .int p1] (WX9_fallOnTown E q0 q0_town q0_weather q0_rule q0_state q0_owedBy q0_town_hold q0_town_below q0_town_hay q0_state_snow q0_state_path q0_state_debt i_owed i_slides i_struck i_slid i_town_houses i_state_now a_state_snow a_state_path) (WX9_fallOnTown E q0 q0_town q0_weather q0_rule q0_state q0_owedBy q0_town_hold q0_town_below q0_town_hay q0_state_snow q0_state_path q0_state_debt i_owed i_slides i_struck i_slid i_town_houses i_state_now a_state_snow9 a_state_path9) := by
  refine begV (by decide +kernel) (Nat.le_of_ble_eq_true rfl) ?_
  intro p e s m args below meth c A Q C hA hret
  have hx := C.1
  have hb := C.2.1
  have L2 : ∀ (a_state_path : Nat → Int32), ∀ (n : Nat) (v2 : Int32) (a_state_snow : Nat → Int32) (o : (Nat → Int32)), fX9_fallOnTown_L2 i_town_houses p1 n v2 a_state_snow = some o → (GO p l e 2 s m args below meth c Q E A 3 44 [] [(0, .ref q0), (1, .int p1)] (WX9_fallOnTown E q0 q0_town q0_weather q0_rule q0_state q0_owedBy q0_town_hold q0_town_below q0_town_hay q0_state_snow q0_state_path q0_state_debt i_owed i_slides i_struck i_slid i_town_houses i_state_now o a_state_path)) → GO p l e 2 s m args below meth c Q E A 3 2 [] [(0, .ref q0), (1, .int p1), (2, .int v2)] (WX9_fallOnTown E q0 q0_town q0_weather q0_rule q0_state q0_owedBy q0_town_hold q0_town_below q0_town_hay q0_state_snow q0_state_path q0_state_debt i_owed i_slides i_struck i_slid i_town_houses i_state_now a_state_snow a_state_path) := by
    intro a_state_path
    intro n
    induction n with
    | zero =>
      intro v2 a_state_snow o hf
      have hf : none = some o := hf
      cases hf
    | succ n ih =>
      intro v2 a_state_snow o hf hE
      intro H locs ls hl hP hD hS
      rw [fX9_fallOnTown_L2] at hf
      refine lv_iload_n hx hb dX9_fallOnTown_2 rfl (lv_at hl 2 rfl) ?_
      refine lv_iconst (v := 2) hx hb dX9_fallOnTown_3 (by decide) ?_
      refine lv_aload_n hx hb dX9_fallOnTown_4 rfl (lv_at hl 0 rfl) ?_
      refine gf_RX9_22 C hP 0 rfl rfl dX9_fallOnTown_5 ?_
      refine gf_RX9_91 C hP 1 rfl rfl dX9_fallOnTown_8 ?_
      refine lv_imul hx hb dX9_fallOnTown_11 ?_
      refine lv_icmp_ge (tgt := 44) hx hb dX9_fallOnTown_12 (by decide) (fun c1 => ?_) (fun c1 => ?_)
      · rw [if_pos c1] at hf
        have hf := Option.some.inj hf
        subst hf
        exact hE _ _ _ (lv_sub hl [0, 1] rfl) hP hD hS
      · rw [if_neg c1] at hf
        refine lv_aload_n hx hb dX9_fallOnTown_15 rfl (lv_at hl 0 rfl) ?_
        refine gf_RX9_12 C hP 0 rfl rfl dX9_fallOnTown_16 ?_
        refine gf_RX9_96 C hP 2 rfl rfl dX9_fallOnTown_19 ?_
        refine lv_iload_n hx hb dX9_fallOnTown_22 rfl (lv_at hl 2 rfl) ?_
        refine lv_aload_n hx hb dX9_fallOnTown_23 rfl (lv_at hl 0 rfl) ?_
        refine gf_RX9_12 C hP 0 rfl rfl dX9_fallOnTown_24 ?_
        refine gf_RX9_96 C hP 2 rfl rfl dX9_fallOnTown_27 ?_
        refine lv_iload_n hx hb dX9_fallOnTown_30 rfl (lv_at hl 2 rfl) ?_
        obtain ⟨g2, hf⟩ := gd_some hf
        refine va_iald hx hb C.2.2.2.2.2.1 hP 3 0 rfl rfl (vin_in g2) dX9_fallOnTown_31 ?_
        refine lv_iload_n hx hb dX9_fallOnTown_32 rfl (lv_at hl 1 rfl) ?_
        refine lv_iadd hx hb dX9_fallOnTown_33 ?_
        obtain ⟨o3, hg4, hf⟩ := bd_some hf
        refine k_SNI (As := [.int ((((a_state_snow (v2 : Int32).toNatClampNeg)) + p1))]) C K_RX9_109 (Nat.le_of_ble_eq_true rfl) (Nat.le_of_ble_eq_true rfl) (kX5_lying l E ((((a_state_snow (v2 : Int32).toNatClampNeg)) + p1)) o3 hg4) [] rfl rfl rfl  hP hD hS hA hl.1 (Nat.le_of_ble_eq_true rfl) rfl dX9_fallOnTown_34 (fun H locs hP hD hS => ?_)
        have hP : va_P E.1 classes (WX9_fallOnTown E q0 q0_town q0_weather q0_rule q0_state q0_owedBy q0_town_hold q0_town_below q0_town_hay q0_state_snow q0_state_path q0_state_debt i_owed i_slides i_struck i_slid i_town_houses i_state_now a_state_snow a_state_path) H := hP
        have hD : va_D A (WX9_fallOnTown E q0 q0_town q0_weather q0_rule q0_state q0_owedBy q0_town_hold q0_town_below q0_town_hay q0_state_snow q0_state_path q0_state_debt i_owed i_slides i_struck i_slid i_town_houses i_state_now a_state_snow a_state_path) := hD
        obtain ⟨g5, hf⟩ := gd_some hf
        refine va_iast hx hb C.2.2.2.2.2.1 hP hD hS 3 0 rfl rfl (vin_in g5) dX9_fallOnTown_37 (fun H locs hP hD hS => ?_)
        have hP : va_P E.1 classes (WX9_fallOnTown E q0 q0_town q0_weather q0_rule q0_state q0_owedBy q0_town_hold q0_town_below q0_town_hay q0_state_snow q0_state_path q0_state_debt i_owed i_slides i_struck i_slid i_town_houses i_state_now ((upd a_state_snow (v2 : Int32).toNatClampNeg o3)) a_state_path) H := hP
        have hD : va_D A (WX9_fallOnTown E q0 q0_town q0_weather q0_rule q0_state q0_owedBy q0_town_hold q0_town_below q0_town_hay q0_state_snow q0_state_path q0_state_debt i_owed i_slides i_struck i_slid i_town_houses i_state_now ((upd a_state_snow (v2 : Int32).toNatClampNeg o3)) a_state_path) := hD
        refine lv_iinc (v := (v2 + 1)) (lv' := [(2, .int ((v2 + 1))), (0, .ref q0), (1, .int p1)]) hx hb dX9_fallOnTown_38 hl (k := 2) rfl rfl (by decide) rfl (fun ls hl => ?_)
        refine lv_goto (tgt := 2) hx hb dX9_fallOnTown_41 (by decide) ?_
        exact ih ((v2 + 1)) ((upd a_state_snow (v2 : Int32).toNatClampNeg o3)) _ hf hE _ _ _ (lv_sub hl [1, 2, 0] rfl) hP hD hS
  have L46 : ∀ (a_state_snow : Nat → Int32), ∀ (n : Nat) (v2 : Int32) (a_state_path : Nat → Int32) (o : (Nat → Int32)), fX9_fallOnTown_L46 i_town_houses p1 n v2 a_state_path = some o → (GO p l e 2 s m args below meth c Q E A 3 86 [] [] (WX9_fallOnTown E q0 q0_town q0_weather q0_rule q0_state q0_owedBy q0_town_hold q0_town_below q0_town_hay q0_state_snow q0_state_path q0_state_debt i_owed i_slides i_struck i_slid i_town_houses i_state_now a_state_snow o)) → GO p l e 2 s m args below meth c Q E A 3 46 [] [(0, .ref q0), (1, .int p1), (2, .int v2)] (WX9_fallOnTown E q0 q0_town q0_weather q0_rule q0_state q0_owedBy q0_town_hold q0_town_below q0_town_hay q0_state_snow q0_state_path q0_state_debt i_owed i_slides i_struck i_slid i_town_houses i_state_now a_state_snow a_state_path) := by
    intro a_state_snow
    intro n
    induction n with
    | zero =>
      intro v2 a_state_path o hf
      have hf : none = some o := hf
      cases hf
    | succ n ih =>
      intro v2 a_state_path o hf hE
      intro H locs ls hl hP hD hS
      rw [fX9_fallOnTown_L46] at hf
      refine lv_iload_n hx hb dX9_fallOnTown_46 rfl (lv_at hl 2 rfl) ?_
      refine lv_aload_n hx hb dX9_fallOnTown_47 rfl (lv_at hl 0 rfl) ?_
      refine gf_RX9_22 C hP 0 rfl rfl dX9_fallOnTown_48 ?_
      refine gf_RX9_91 C hP 1 rfl rfl dX9_fallOnTown_51 ?_
      refine lv_icmp_ge (tgt := 86) hx hb dX9_fallOnTown_54 (by decide) (fun c8 => ?_) (fun c8 => ?_)
      · rw [if_pos c8] at hf
        have hf := Option.some.inj hf
        subst hf
        exact hE _ _ _ (lv_sub hl [] rfl) hP hD hS
      · rw [if_neg c8] at hf
        refine lv_aload_n hx hb dX9_fallOnTown_57 rfl (lv_at hl 0 rfl) ?_
        refine gf_RX9_12 C hP 0 rfl rfl dX9_fallOnTown_58 ?_
        refine gf_RX9_112 C hP 2 rfl rfl dX9_fallOnTown_61 ?_
        refine lv_iload_n hx hb dX9_fallOnTown_64 rfl (lv_at hl 2 rfl) ?_
        refine lv_aload_n hx hb dX9_fallOnTown_65 rfl (lv_at hl 0 rfl) ?_
        refine gf_RX9_12 C hP 0 rfl rfl dX9_fallOnTown_66 ?_
        refine gf_RX9_112 C hP 2 rfl rfl dX9_fallOnTown_69 ?_
        refine lv_iload_n hx hb dX9_fallOnTown_72 rfl (lv_at hl 2 rfl) ?_
        obtain ⟨g9, hf⟩ := gd_some hf
        refine va_iald hx hb C.2.2.2.2.2.1 hP 4 0 rfl rfl (vin_in g9) dX9_fallOnTown_73 ?_
        refine lv_iload_n hx hb dX9_fallOnTown_74 rfl (lv_at hl 1 rfl) ?_
        refine lv_iadd hx hb dX9_fallOnTown_75 ?_
        obtain ⟨o10, hg11, hf⟩ := bd_some hf
        refine k_SNI (As := [.int ((((a_state_path (v2 : Int32).toNatClampNeg)) + p1))]) C K_RX9_109 (Nat.le_of_ble_eq_true rfl) (Nat.le_of_ble_eq_true rfl) (kX5_lying l E ((((a_state_path (v2 : Int32).toNatClampNeg)) + p1)) o10 hg11) [] rfl rfl rfl  hP hD hS hA hl.1 (Nat.le_of_ble_eq_true rfl) rfl dX9_fallOnTown_76 (fun H locs hP hD hS => ?_)
        have hP : va_P E.1 classes (WX9_fallOnTown E q0 q0_town q0_weather q0_rule q0_state q0_owedBy q0_town_hold q0_town_below q0_town_hay q0_state_snow q0_state_path q0_state_debt i_owed i_slides i_struck i_slid i_town_houses i_state_now a_state_snow a_state_path) H := hP
        have hD : va_D A (WX9_fallOnTown E q0 q0_town q0_weather q0_rule q0_state q0_owedBy q0_town_hold q0_town_below q0_town_hay q0_state_snow q0_state_path q0_state_debt i_owed i_slides i_struck i_slid i_town_houses i_state_now a_state_snow a_state_path) := hD
        obtain ⟨g12, hf⟩ := gd_some hf
        refine va_iast hx hb C.2.2.2.2.2.1 hP hD hS 4 0 rfl rfl (vin_in g12) dX9_fallOnTown_79 (fun H locs hP hD hS => ?_)
        have hP : va_P E.1 classes (WX9_fallOnTown E q0 q0_town q0_weather q0_rule q0_state q0_owedBy q0_town_hold q0_town_below q0_town_hay q0_state_snow q0_state_path q0_state_debt i_owed i_slides i_struck i_slid i_town_houses i_state_now a_state_snow ((upd a_state_path (v2 : Int32).toNatClampNeg o10))) H := hP
        have hD : va_D A (WX9_fallOnTown E q0 q0_town q0_weather q0_rule q0_state q0_owedBy q0_town_hold q0_town_below q0_town_hay q0_state_snow q0_state_path q0_state_debt i_owed i_slides i_struck i_slid i_town_houses i_state_now a_state_snow ((upd a_state_path (v2 : Int32).toNatClampNeg o10))) := hD
        refine lv_iinc (v := (v2 + 1)) (lv' := [(2, .int ((v2 + 1))), (0, .ref q0), (1, .int p1)]) hx hb dX9_fallOnTown_80 hl (k := 2) rfl rfl (by decide) rfl (fun ls hl => ?_)
        refine lv_goto (tgt := 46) hx hb dX9_fallOnTown_83 (by decide) ?_
        exact ih ((v2 + 1)) ((upd a_state_path (v2 : Int32).toNatClampNeg o10)) _ hf hE _ _ _ (lv_sub hl [1, 2, 0] rfl) hP hD hS
  intro H locs ls hl hP hD hS
  have hl : lv_has ls 3 [(0, .ref q0), (1, .int p1)] := hl
  unfold fX9_fallOnTown at hf
  refine lv_iconst (v := 0) hx hb dX9_fallOnTown_0 (by decide) ?_
  refine lv_istore_n (lv' := [(2, .int 0), (0, .ref q0), (1, .int p1)]) hx hb dX9_fallOnTown_1 rfl hl (by decide) rfl (fun ls hl => ?_)
  obtain ⟨o6, hg7, hf⟩ := bd_some hf
  refine L2 a_state_path FU 0 a_state_snow o6 hg7 ?_ _ _ _ (lv_sub hl [1, 2, 0] rfl) hP hD hS
  intro H locs ls hl hP hD hS
  refine lv_iconst (v := 0) hx hb dX9_fallOnTown_44 (by decide) ?_
  refine lv_istore_n (lv' := [(2, .int 0), (0, .ref q0), (1, .int p1)]) hx hb dX9_fallOnTown_45 rfl hl (by decide) rfl (fun ls hl => ?_)
  obtain ⟨o13, hg14, hf⟩ := bd_some hf
  refine L46 o6 FU 0 a_state_path o13 hg14 ?_ _ _ _ (lv_sub hl [1, 2, 0] rfl) hP hD hS
  intro H locs ls hl hP hD hS
  have hj0 := Option.some.inj hf
  obtain ⟨ha0, hj1⟩ := Prod.mk.inj hj0
  subst ha0
  subst hj1
  exact hret _ _ _ _ dX9_fallOnTown_86 hP hD hS
theorem q155 : Cond.fieldLinkNest RX9 102 "SnowForSummer$Town" "below" "[I" "SnowForSummer" ∈ NL := NL_mem 155 (by decide +kernel) (by decide +kernel)
theorem gf_RX9_102 {p : Program} {l : Launch} {e : Env} {R : Room} {s : State} {m : MethodId} {args : Array Value} {below : List Frame} {meth : Method} {c : Code} {H : Heap} {locs : List Loc} {cells slots : Nat} {Q : State → Prop} {E : ENV} {cc : ByteArray} {n : Nat} {r : Option FieldType} {pc : Nat} {ls : Array Slot} {rest : List Value} {a : Nat} {ws : va_W} {nm ds : String} {fs : List Value} {A : Nat → Prop} {v : Value} (C : Cx E A ⟨RX9, nm, ds⟩ cc n r p s m args meth c) (hP : va_P E.1 classes ws H) (q0 : Nat) (he : ws[q0]? = some (a, .inr (7, fs))) (hv : fs[1]? = some v) (hdg : decode cc pc = .ok (.getfield 102, 3))
    (kk : W p l e R s m args below meth c H locs cells slots Q (F0 m (pc + 3) ls (v :: rest))) : W p l e R s m args below meth c H locs cells slots Q (F0 m pc ls (.ref a :: rest)) :=
  va_getN (C := RX7) (T := TX7) (N := 4) (Ts := wl ⟨RX9, nm, ds⟩ cc n r) C.1 C.2.1 C.2.2.2.2.1 (fun w h => List.mem_cons_of_mem _ (inT7 w h)) C.2.2.2.1 C.2.2.2.2.2.1 hP q0 he rfl 1 (by decide) (va_Nw.use rfl (C.2.2.2.2.2.2.2.2.1 _ q155)) (fun _ h9 => h9) hv hdg kk
theorem K_RX9_115 : KV RX9 115 yX7_has cX7_has 2 (some .boolean) 1 := ⟨Tg_mem 717 (by decide +kernel) (by decide +kernel), Tg_mem 92 (by decide +kernel) (by decide +kernel), Tg_mem 803 (by decide +kernel) (by decide +kernel), Tg_mem 715 (by decide +kernel) (by decide +kernel), Tg_mem 716 (by decide +kernel) (by decide +kernel), by decide +kernel⟩
theorem q273 : Cond.fieldLink RX9 30 "SnowForSummer$Walk" "rule" "LSnowForSummer$Rule;" ∈ Tg := Tg_mem 273 (by decide +kernel) (by decide +kernel)
theorem gf_RX9_30 {p : Program} {l : Launch} {e : Env} {R : Room} {s : State} {m : MethodId} {args : Array Value} {below : List Frame} {meth : Method} {c : Code} {H : Heap} {locs : List Loc} {cells slots : Nat} {Q : State → Prop} {E : ENV} {cc : ByteArray} {n : Nat} {r : Option FieldType} {pc : Nat} {ls : Array Slot} {rest : List Value} {a : Nat} {ws : va_W} {nm ds : String} {fs : List Value} {A : Nat → Prop} {v : Value} (C : Cx E A ⟨RX9, nm, ds⟩ cc n r p s m args meth c) (hP : va_P E.1 classes ws H) (q0 : Nat) (he : ws[q0]? = some (a, .inr (9, fs))) (hv : fs[2]? = some v) (hdg : decode cc pc = .ok (.getfield 30, 3))
    (kk : W p l e R s m args below meth c H locs cells slots Q (F0 m (pc + 3) ls (v :: rest))) : W p l e R s m args below meth c H locs cells slots Q (F0 m pc ls (.ref a :: rest)) :=
  va_get (C := RX9) (T := TX9) (N := 9) (Ts := wl ⟨RX9, nm, ds⟩ cc n r) C.1 C.2.1 C.2.2.2.2.1 (fun w h => List.mem_cons_of_mem _ (inT9 w h)) C.2.2.2.1 C.2.2.2.2.2.1 hP q0 he rfl 2 (by decide) (C.2.2.2.2.1 _ (List.mem_cons_of_mem _ q273)) (fun _ h9 => h9) hv hdg kk
theorem q198 : Cond.fieldLinkNest RX9 119 "SnowForSummer$Rule" "things" "[I" "SnowForSummer" ∈ NL := NL_mem 198 (by decide +kernel) (by decide +kernel)
theorem gf_RX9_119 {p : Program} {l : Launch} {e : Env} {R : Room} {s : State} {m : MethodId} {args : Array Value} {below : List Frame} {meth : Method} {c : Code} {H : Heap} {locs : List Loc} {cells slots : Nat} {Q : State → Prop} {E : ENV} {cc : ByteArray} {n : Nat} {r : Option FieldType} {pc : Nat} {ls : Array Slot} {rest : List Value} {a : Nat} {ws : va_W} {nm ds : String} {fs : List Value} {A : Nat → Prop} {v : Value} (C : Cx E A ⟨RX9, nm, ds⟩ cc n r p s m args meth c) (hP : va_P E.1 classes ws H) (q0 : Nat) (he : ws[q0]? = some (a, .inr (4, fs))) (hv : fs[3]? = some v) (hdg : decode cc pc = .ok (.getfield 119, 3))
    (kk : W p l e R s m args below meth c H locs cells slots Q (F0 m (pc + 3) ls (v :: rest))) : W p l e R s m args below meth c H locs cells slots Q (F0 m pc ls (.ref a :: rest)) :=
  va_getN (C := RX4) (T := TX4) (N := 6) (Ts := wl ⟨RX9, nm, ds⟩ cc n r) C.1 C.2.1 C.2.2.2.2.1 (fun w h => List.mem_cons_of_mem _ (inT4 w h)) C.2.2.2.1 C.2.2.2.2.2.1 hP q0 he rfl 3 (by decide) (va_Nw.use rfl (C.2.2.2.2.2.2.2.2.1 _ q198)) (fun _ h9 => h9) hv hdg kk
theorem q272 : Cond.fieldLink RX9 26 "SnowForSummer$Walk" "weather" "LSnowForSummer$Weather;" ∈ Tg := Tg_mem 272 (by decide +kernel) (by decide +kernel)
theorem gf_RX9_26 {p : Program} {l : Launch} {e : Env} {R : Room} {s : State} {m : MethodId} {args : Array Value} {below : List Frame} {meth : Method} {c : Code} {H : Heap} {locs : List Loc} {cells slots : Nat} {Q : State → Prop} {E : ENV} {cc : ByteArray} {n : Nat} {r : Option FieldType} {pc : Nat} {ls : Array Slot} {rest : List Value} {a : Nat} {ws : va_W} {nm ds : String} {fs : List Value} {A : Nat → Prop} {v : Value} (C : Cx E A ⟨RX9, nm, ds⟩ cc n r p s m args meth c) (hP : va_P E.1 classes ws H) (q0 : Nat) (he : ws[q0]? = some (a, .inr (9, fs))) (hv : fs[1]? = some v) (hdg : decode cc pc = .ok (.getfield 26, 3))
    (kk : W p l e R s m args below meth c H locs cells slots Q (F0 m (pc + 3) ls (v :: rest))) : W p l e R s m args below meth c H locs cells slots Q (F0 m pc ls (.ref a :: rest)) :=
  va_get (C := RX9) (T := TX9) (N := 9) (Ts := wl ⟨RX9, nm, ds⟩ cc n r) C.1 C.2.1 C.2.2.2.2.1 (fun w h => List.mem_cons_of_mem _ (inT9 w h)) C.2.2.2.1 C.2.2.2.2.2.1 hP q0 he rfl 1 (by decide) (C.2.2.2.2.1 _ (List.mem_cons_of_mem _ q272)) (fun _ h9 => h9) hv hdg kk
theorem q260 : Cond.fieldLinkNest RX9 72 "SnowForSummer$State" "now" "I" "SnowForSummer" ∈ NL := NL_mem 260 (by decide +kernel) (by decide +kernel)
theorem gf_RX9_72 {p : Program} {l : Launch} {e : Env} {R : Room} {s : State} {m : MethodId} {args : Array Value} {below : List Frame} {meth : Method} {c : Code} {H : Heap} {locs : List Loc} {cells slots : Nat} {Q : State → Prop} {E : ENV} {cc : ByteArray} {n : Nat} {r : Option FieldType} {pc : Nat} {ls : Array Slot} {rest : List Value} {a : Nat} {ws : va_W} {nm ds : String} {fs : List Value} {A : Nat → Prop} {v : Value} (C : Cx E A ⟨RX9, nm, ds⟩ cc n r p s m args meth c) (hP : va_P E.1 classes ws H) (q0 : Nat) (he : ws[q0]? = some (a, .inr (5, fs))) (hv : fs[3]? = some v) (hdg : decode cc pc = .ok (.getfield 72, 3))
    (kk : W p l e R s m args below meth c H locs cells slots Q (F0 m (pc + 3) ls (v :: rest))) : W p l e R s m args below meth c H locs cells slots Q (F0 m pc ls (.ref a :: rest)) :=
  va_getN (C := RX5) (T := TX5) (N := 4) (Ts := wl ⟨RX9, nm, ds⟩ cc n r) C.1 C.2.1 C.2.2.2.2.1 (fun w h => List.mem_cons_of_mem _ (inT5 w h)) C.2.2.2.1 C.2.2.2.2.2.1 hP q0 he rfl 3 (by decide) (va_Nw.use rfl (C.2.2.2.2.2.2.2.2.1 _ q260)) (fun _ h9 => h9) hv hdg kk
theorem K_RX9_75 : KV RX9 75 yX10_inchesIn cX10_inchesIn 2 (some .int) 1 := ⟨Tg_mem 709 (by decide +kernel) (by decide +kernel), Tg_mem 93 (by decide +kernel) (by decide +kernel), Tg_mem 788 (by decide +kernel) (by decide +kernel), Tg_mem 707 (by decide +kernel) (by decide +kernel), Tg_mem 708 (by decide +kernel) (by decide +kernel), by decide +kernel⟩
theorem q789 : Cond.methodLink RX9 81 Lib.Math.max.name ∈ Tg := Tg_mem 789 (by decide +kernel) (by decide +kernel)
theorem q152 : Cond.fieldLinkNest RX9 99 "SnowForSummer$Town" "hold" "[I" "SnowForSummer" ∈ NL := NL_mem 152 (by decide +kernel) (by decide +kernel)
theorem gf_RX9_99 {p : Program} {l : Launch} {e : Env} {R : Room} {s : State} {m : MethodId} {args : Array Value} {below : List Frame} {meth : Method} {c : Code} {H : Heap} {locs : List Loc} {cells slots : Nat} {Q : State → Prop} {E : ENV} {cc : ByteArray} {n : Nat} {r : Option FieldType} {pc : Nat} {ls : Array Slot} {rest : List Value} {a : Nat} {ws : va_W} {nm ds : String} {fs : List Value} {A : Nat → Prop} {v : Value} (C : Cx E A ⟨RX9, nm, ds⟩ cc n r p s m args meth c) (hP : va_P E.1 classes ws H) (q0 : Nat) (he : ws[q0]? = some (a, .inr (7, fs))) (hv : fs[0]? = some v) (hdg : decode cc pc = .ok (.getfield 99, 3))
    (kk : W p l e R s m args below meth c H locs cells slots Q (F0 m (pc + 3) ls (v :: rest))) : W p l e R s m args below meth c H locs cells slots Q (F0 m pc ls (.ref a :: rest)) :=
  va_getN (C := RX7) (T := TX7) (N := 4) (Ts := wl ⟨RX9, nm, ds⟩ cc n r) C.1 C.2.1 C.2.2.2.2.1 (fun w h => List.mem_cons_of_mem _ (inT7 w h)) C.2.2.2.1 C.2.2.2.2.2.1 hP q0 he rfl 0 (by decide) (va_Nw.use rfl (C.2.2.2.2.2.2.2.2.1 _ q152)) (fun _ h9 => h9) hv hdg kk
theorem K_RX9_124 : KV RX9 124 yX4_daysOwed cX4_daysOwed 4 (some .int) 0 := ⟨Tg_mem 807 (by decide +kernel) (by decide +kernel), Tg_mem 94 (by decide +kernel) (by decide +kernel), Tg_mem 804 (by decide +kernel) (by decide +kernel), Tg_mem 805 (by decide +kernel) (by decide +kernel), Tg_mem 806 (by decide +kernel) (by decide +kernel), by decide +kernel⟩
theorem K_RX9_128 : KV RX9 128 yX5_owe cX5_owe 5 none 3 := ⟨Tg_mem 816 (by decide +kernel) (by decide +kernel), Tg_mem 97 (by decide +kernel) (by decide +kernel), Tg_mem 813 (by decide +kernel) (by decide +kernel), Tg_mem 814 (by decide +kernel) (by decide +kernel), Tg_mem 815 (by decide +kernel) (by decide +kernel), by decide +kernel⟩
theorem dX9_slideOff_0 : decode cX9_slideOff 0 = .ok (.aload_n 0, 1) := by decide +kernel
theorem dX9_slideOff_1 : decode cX9_slideOff 1 = .ok (.getfield 22, 3) := by decide +kernel
theorem dX9_slideOff_4 : decode cX9_slideOff 4 = .ok (.getfield 102, 3) := by decide +kernel
theorem dX9_slideOff_7 : decode cX9_slideOff 7 = .ok (.iload_n 1, 1) := by decide +kernel
theorem dX9_slideOff_8 : decode cX9_slideOff 8 = .ok (.iaload, 1) := by decide +kernel
theorem dX9_slideOff_9 : decode cX9_slideOff 9 = .ok (.istore 4, 2) := by decide +kernel
theorem dX9_slideOff_11 : decode cX9_slideOff 11 = .ok (.aload_n 0, 1) := by decide +kernel
theorem dX9_slideOff_12 : decode cX9_slideOff 12 = .ok (.getfield 12, 3) := by decide +kernel
theorem dX9_slideOff_15 : decode cX9_slideOff 15 = .ok (.getfield 96, 3) := by decide +kernel
theorem dX9_slideOff_18 : decode cX9_slideOff 18 = .ok (.iload_n 1, 1) := by decide +kernel
theorem dX9_slideOff_19 : decode cX9_slideOff 19 = .ok (.iaload, 1) := by decide +kernel
theorem dX9_slideOff_20 : decode cX9_slideOff 20 = .ok (.istore 5, 2) := by decide +kernel
theorem dX9_slideOff_22 : decode cX9_slideOff 22 = .ok (.aload_n 0, 1) := by decide +kernel
theorem dX9_slideOff_23 : decode cX9_slideOff 23 = .ok (.getfield 12, 3) := by decide +kernel
theorem dX9_slideOff_26 : decode cX9_slideOff 26 = .ok (.getfield 96, 3) := by decide +kernel
theorem dX9_slideOff_29 : decode cX9_slideOff 29 = .ok (.iload_n 1, 1) := by decide +kernel
theorem dX9_slideOff_30 : decode cX9_slideOff 30 = .ok (.iconst 0, 1) := by decide +kernel
theorem dX9_slideOff_31 : decode cX9_slideOff 31 = .ok (.iastore, 1) := by decide +kernel
theorem dX9_slideOff_32 : decode cX9_slideOff 32 = .ok (.aload_n 0, 1) := by decide +kernel
theorem dX9_slideOff_33 : decode cX9_slideOff 33 = .ok (.getfield 22, 3) := by decide +kernel
theorem dX9_slideOff_36 : decode cX9_slideOff 36 = .ok (.iload 4, 2) := by decide +kernel
theorem dX9_slideOff_38 : decode cX9_slideOff 38 = .ok (.invokevirtual 115, 3) := by decide +kernel
theorem dX9_slideOff_41 : decode cX9_slideOff 41 = .ok (.ifCond .ne 4, 3) := by decide +kernel
theorem dX9_slideOff_44 : decode cX9_slideOff 44 = .ok (.return_, 1) := by decide +kernel
theorem dX9_slideOff_45 : decode cX9_slideOff 45 = .ok (.aload_n 0, 1) := by decide +kernel
theorem dX9_slideOff_46 : decode cX9_slideOff 46 = .ok (.getfield 12, 3) := by decide +kernel
theorem dX9_slideOff_49 : decode cX9_slideOff 49 = .ok (.getfield 112, 3) := by decide +kernel
theorem dX9_slideOff_52 : decode cX9_slideOff 52 = .ok (.iload 4, 2) := by decide +kernel
theorem dX9_slideOff_54 : decode cX9_slideOff 54 = .ok (.iaload, 1) := by decide +kernel
theorem dX9_slideOff_55 : decode cX9_slideOff 55 = .ok (.istore 6, 2) := by decide +kernel
theorem dX9_slideOff_57 : decode cX9_slideOff 57 = .ok (.aload_n 0, 1) := by decide +kernel
theorem dX9_slideOff_58 : decode cX9_slideOff 58 = .ok (.getfield 12, 3) := by decide +kernel
theorem dX9_slideOff_61 : decode cX9_slideOff 61 = .ok (.getfield 112, 3) := by decide +kernel
theorem dX9_slideOff_64 : decode cX9_slideOff 64 = .ok (.iload 4, 2) := by decide +kernel
theorem dX9_slideOff_66 : decode cX9_slideOff 66 = .ok (.iload 6, 2) := by decide +kernel
theorem dX9_slideOff_68 : decode cX9_slideOff 68 = .ok (.iload 5, 2) := by decide +kernel
theorem dX9_slideOff_70 : decode cX9_slideOff 70 = .ok (.iadd, 1) := by decide +kernel
theorem dX9_slideOff_71 : decode cX9_slideOff 71 = .ok (.invokestatic 109, 3) := by decide +kernel
theorem dX9_slideOff_74 : decode cX9_slideOff 74 = .ok (.iastore, 1) := by decide +kernel
theorem dX9_slideOff_75 : decode cX9_slideOff 75 = .ok (.iload 5, 2) := by decide +kernel
theorem dX9_slideOff_77 : decode cX9_slideOff 77 = .ok (.ifCond .le 181, 3) := by decide +kernel
theorem dX9_slideOff_80 : decode cX9_slideOff 80 = .ok (.iload_n 2, 1) := by decide +kernel
theorem dX9_slideOff_81 : decode cX9_slideOff 81 = .ok (.iload 4, 2) := by decide +kernel
theorem dX9_slideOff_83 : decode cX9_slideOff 83 = .ok (.if_icmp .eq 175, 3) := by decide +kernel
theorem dX9_slideOff_86 : decode cX9_slideOff 86 = .ok (.aload_n 0, 1) := by decide +kernel
theorem dX9_slideOff_87 : decode cX9_slideOff 87 = .ok (.getfield 30, 3) := by decide +kernel
theorem dX9_slideOff_90 : decode cX9_slideOff 90 = .ok (.getfield 119, 3) := by decide +kernel
theorem dX9_slideOff_93 : decode cX9_slideOff 93 = .ok (.iconst 0, 1) := by decide +kernel
theorem dX9_slideOff_94 : decode cX9_slideOff 94 = .ok (.iload 5, 2) := by decide +kernel
theorem dX9_slideOff_96 : decode cX9_slideOff 96 = .ok (.iastore, 1) := by decide +kernel
theorem dX9_slideOff_97 : decode cX9_slideOff 97 = .ok (.aload_n 0, 1) := by decide +kernel
theorem dX9_slideOff_98 : decode cX9_slideOff 98 = .ok (.getfield 30, 3) := by decide +kernel
theorem dX9_slideOff_101 : decode cX9_slideOff 101 = .ok (.getfield 119, 3) := by decide +kernel
theorem dX9_slideOff_104 : decode cX9_slideOff 104 = .ok (.iconst 1, 1) := by decide +kernel
theorem dX9_slideOff_105 : decode cX9_slideOff 105 = .ok (.iload 6, 2) := by decide +kernel
theorem dX9_slideOff_107 : decode cX9_slideOff 107 = .ok (.iastore, 1) := by decide +kernel
theorem dX9_slideOff_108 : decode cX9_slideOff 108 = .ok (.aload_n 0, 1) := by decide +kernel
theorem dX9_slideOff_109 : decode cX9_slideOff 109 = .ok (.getfield 30, 3) := by decide +kernel
theorem dX9_slideOff_112 : decode cX9_slideOff 112 = .ok (.getfield 119, 3) := by decide +kernel
theorem dX9_slideOff_115 : decode cX9_slideOff 115 = .ok (.iconst 2, 1) := by decide +kernel
theorem dX9_slideOff_116 : decode cX9_slideOff 116 = .ok (.iconst 0, 1) := by decide +kernel
theorem dX9_slideOff_117 : decode cX9_slideOff 117 = .ok (.aload_n 0, 1) := by decide +kernel
theorem dX9_slideOff_118 : decode cX9_slideOff 118 = .ok (.getfield 26, 3) := by decide +kernel
theorem dX9_slideOff_121 : decode cX9_slideOff 121 = .ok (.aload_n 0, 1) := by decide +kernel
theorem dX9_slideOff_122 : decode cX9_slideOff 122 = .ok (.getfield 12, 3) := by decide +kernel
theorem dX9_slideOff_125 : decode cX9_slideOff 125 = .ok (.getfield 72, 3) := by decide +kernel
theorem dX9_slideOff_128 : decode cX9_slideOff 128 = .ok (.invokevirtual 75, 3) := by decide +kernel
theorem dX9_slideOff_131 : decode cX9_slideOff 131 = .ok (.ineg, 1) := by decide +kernel
theorem dX9_slideOff_132 : decode cX9_slideOff 132 = .ok (.invokestatic 81, 3) := by decide +kernel
theorem dX9_slideOff_135 : decode cX9_slideOff 135 = .ok (.iastore, 1) := by decide +kernel
theorem dX9_slideOff_136 : decode cX9_slideOff 136 = .ok (.aload_n 0, 1) := by decide +kernel
theorem dX9_slideOff_137 : decode cX9_slideOff 137 = .ok (.getfield 30, 3) := by decide +kernel
theorem dX9_slideOff_140 : decode cX9_slideOff 140 = .ok (.getfield 119, 3) := by decide +kernel
theorem dX9_slideOff_143 : decode cX9_slideOff 143 = .ok (.iconst 3, 1) := by decide +kernel
theorem dX9_slideOff_144 : decode cX9_slideOff 144 = .ok (.aload_n 0, 1) := by decide +kernel
theorem dX9_slideOff_145 : decode cX9_slideOff 145 = .ok (.getfield 22, 3) := by decide +kernel
theorem dX9_slideOff_148 : decode cX9_slideOff 148 = .ok (.getfield 99, 3) := by decide +kernel
theorem dX9_slideOff_151 : decode cX9_slideOff 151 = .ok (.iload_n 1, 1) := by decide +kernel
theorem dX9_slideOff_152 : decode cX9_slideOff 152 = .ok (.iconst 2, 1) := by decide +kernel
theorem dX9_slideOff_153 : decode cX9_slideOff 153 = .ok (.idiv, 1) := by decide +kernel
theorem dX9_slideOff_154 : decode cX9_slideOff 154 = .ok (.iaload, 1) := by decide +kernel
theorem dX9_slideOff_155 : decode cX9_slideOff 155 = .ok (.iastore, 1) := by decide +kernel
theorem dX9_slideOff_156 : decode cX9_slideOff 156 = .ok (.aload_n 0, 1) := by decide +kernel
theorem dX9_slideOff_157 : decode cX9_slideOff 157 = .ok (.getfield 30, 3) := by decide +kernel
theorem dX9_slideOff_160 : decode cX9_slideOff 160 = .ok (.getfield 119, 3) := by decide +kernel
theorem dX9_slideOff_163 : decode cX9_slideOff 163 = .ok (.iconst 4, 1) := by decide +kernel
theorem dX9_slideOff_164 : decode cX9_slideOff 164 = .ok (.aload_n 0, 1) := by decide +kernel
theorem dX9_slideOff_165 : decode cX9_slideOff 165 = .ok (.getfield 12, 3) := by decide +kernel
theorem dX9_slideOff_168 : decode cX9_slideOff 168 = .ok (.getfield 72, 3) := by decide +kernel
theorem dX9_slideOff_171 : decode cX9_slideOff 171 = .ok (.iastore, 1) := by decide +kernel
theorem dX9_slideOff_172 : decode cX9_slideOff 172 = .ok (.aload_n 0, 1) := by decide +kernel
theorem dX9_slideOff_173 : decode cX9_slideOff 173 = .ok (.getfield 30, 3) := by decide +kernel
theorem dX9_slideOff_176 : decode cX9_slideOff 176 = .ok (.getfield 119, 3) := by decide +kernel
theorem dX9_slideOff_179 : decode cX9_slideOff 179 = .ok (.iconst 5, 1) := by decide +kernel
theorem dX9_slideOff_180 : decode cX9_slideOff 180 = .ok (.iload_n 3, 1) := by decide +kernel
theorem dX9_slideOff_181 : decode cX9_slideOff 181 = .ok (.ifCond .eq 7, 3) := by decide +kernel
theorem dX9_slideOff_184 : decode cX9_slideOff 184 = .ok (.iconst 1, 1) := by decide +kernel
theorem dX9_slideOff_185 : decode cX9_slideOff 185 = .ok (.goto 4, 3) := by decide +kernel
theorem dX9_slideOff_188 : decode cX9_slideOff 188 = .ok (.iconst 0, 1) := by decide +kernel
theorem dX9_slideOff_189 : decode cX9_slideOff 189 = .ok (.iastore, 1) := by decide +kernel
theorem dX9_slideOff_190 : decode cX9_slideOff 190 = .ok (.aload_n 0, 1) := by decide +kernel
theorem dX9_slideOff_191 : decode cX9_slideOff 191 = .ok (.getfield 30, 3) := by decide +kernel
theorem dX9_slideOff_194 : decode cX9_slideOff 194 = .ok (.getfield 119, 3) := by decide +kernel
theorem dX9_slideOff_197 : decode cX9_slideOff 197 = .ok (.bipush 6, 2) := by decide +kernel
theorem dX9_slideOff_199 : decode cX9_slideOff 199 = .ok (.iload_n 1, 1) := by decide +kernel
theorem dX9_slideOff_200 : decode cX9_slideOff 200 = .ok (.iconst 2, 1) := by decide +kernel
theorem dX9_slideOff_201 : decode cX9_slideOff 201 = .ok (.idiv, 1) := by decide +kernel
theorem dX9_slideOff_202 : decode cX9_slideOff 202 = .ok (.iastore, 1) := by decide +kernel
theorem dX9_slideOff_203 : decode cX9_slideOff 203 = .ok (.aload_n 0, 1) := by decide +kernel
theorem dX9_slideOff_204 : decode cX9_slideOff 204 = .ok (.getfield 30, 3) := by decide +kernel
theorem dX9_slideOff_207 : decode cX9_slideOff 207 = .ok (.getfield 119, 3) := by decide +kernel
theorem dX9_slideOff_210 : decode cX9_slideOff 210 = .ok (.bipush 7, 2) := by decide +kernel
theorem dX9_slideOff_212 : decode cX9_slideOff 212 = .ok (.iload 4, 2) := by decide +kernel
theorem dX9_slideOff_214 : decode cX9_slideOff 214 = .ok (.iastore, 1) := by decide +kernel
theorem dX9_slideOff_215 : decode cX9_slideOff 215 = .ok (.aload_n 0, 1) := by decide +kernel
theorem dX9_slideOff_216 : decode cX9_slideOff 216 = .ok (.getfield 30, 3) := by decide +kernel
theorem dX9_slideOff_219 : decode cX9_slideOff 219 = .ok (.invokevirtual 124, 3) := by decide +kernel
theorem dX9_slideOff_222 : decode cX9_slideOff 222 = .ok (.istore 7, 2) := by decide +kernel
theorem dX9_slideOff_224 : decode cX9_slideOff 224 = .ok (.aload_n 0, 1) := by decide +kernel
theorem dX9_slideOff_225 : decode cX9_slideOff 225 = .ok (.getfield 12, 3) := by decide +kernel
theorem dX9_slideOff_228 : decode cX9_slideOff 228 = .ok (.iload_n 2, 1) := by decide +kernel
theorem dX9_slideOff_229 : decode cX9_slideOff 229 = .ok (.iload 4, 2) := by decide +kernel
theorem dX9_slideOff_231 : decode cX9_slideOff 231 = .ok (.iload 7, 2) := by decide +kernel
theorem dX9_slideOff_233 : decode cX9_slideOff 233 = .ok (.invokevirtual 128, 3) := by decide +kernel
theorem dX9_slideOff_236 : decode cX9_slideOff 236 = .ok (.aload_n 0, 1) := by decide +kernel
theorem dX9_slideOff_237 : decode cX9_slideOff 237 = .ok (.getfield 18, 3) := by decide +kernel
theorem dX9_slideOff_240 : decode cX9_slideOff 240 = .ok (.iload_n 2, 1) := by decide +kernel
theorem dX9_slideOff_241 : decode cX9_slideOff 241 = .ok (.dup2, 1) := by decide +kernel
theorem dX9_slideOff_242 : decode cX9_slideOff 242 = .ok (.iaload, 1) := by decide +kernel
theorem dX9_slideOff_243 : decode cX9_slideOff 243 = .ok (.iload 7, 2) := by decide +kernel
theorem dX9_slideOff_245 : decode cX9_slideOff 245 = .ok (.iadd, 1) := by decide +kernel
theorem dX9_slideOff_246 : decode cX9_slideOff 246 = .ok (.iastore, 1) := by decide +kernel
theorem dX9_slideOff_247 : decode cX9_slideOff 247 = .ok (.aload_n 0, 1) := by decide +kernel
theorem dX9_slideOff_248 : decode cX9_slideOff 248 = .ok (.dup, 1) := by decide +kernel
theorem dX9_slideOff_249 : decode cX9_slideOff 249 = .ok (.getfield 53, 3) := by decide +kernel
theorem dX9_slideOff_252 : decode cX9_slideOff 252 = .ok (.iload 7, 2) := by decide +kernel
theorem dX9_slideOff_254 : decode cX9_slideOff 254 = .ok (.iadd, 1) := by decide +kernel
theorem dX9_slideOff_255 : decode cX9_slideOff 255 = .ok (.putfield 53, 3) := by decide +kernel
theorem dX9_slideOff_258 : decode cX9_slideOff 258 = .ok (.return_, 1) := by decide +kernel
def WX9_slideOff (E : ENV) (q0 : Nat) (q0_town : Nat) (q0_weather : Nat) (q0_rule : Nat) (q0_state : Nat) (q0_owedBy : Nat) (q0_town_hold : Nat) (q0_town_below : Nat) (q0_town_hay : Nat) (q0_state_snow : Nat) (q0_state_path : Nat) (q0_state_debt : Nat) (q0_rule_code : Nat) (q0_rule_draft : Nat) (q0_rule_stack : Nat) (q0_rule_things : Nat) (q0_weather_inches : Nat) (i_owed : Int32) (i_slides : Int32) (i_struck : Int32) (i_slid : Int32) (i_town_houses : Int32) (a_town_below : Nat → Int32) (i_state_now : Int32) (a_state_snow : Nat → Int32) (a_state_path : Nat → Int32) (i_rule_length : Int32) (i_rule_drafted : Int32) (a_rule_things : Nat → Int32) (i_weather_length : Int32) (i_weather_cycle : Int32) (a_weather_inches : Nat → Int32) (a_town_hold : Nat → Int32) (a_rule_stack : Nat → Int32) (a_rule_code : Nat → Int32) (a_state_debt : Nat → Int32) (a_owedBy : Nat → Int32) : va_W := [(q0, .inr (9, [.ref q0_town, .ref q0_weather, .ref q0_rule, .ref q0_state, .ref q0_owedBy, .int i_owed, .int i_slides, .int i_struck, .int i_slid])), (q0_town, .inr (7, [.ref q0_town_hold, .ref q0_town_below, .ref q0_town_hay, .int i_town_houses])), (q0_town_below, .inl (E.2.1, 14, .inl a_town_below)), (q0_state, .inr (5, [.ref q0_state_snow, .ref q0_state_path, .ref q0_state_debt, .int i_state_now])), (q0_state_snow, .inl (E.2.1, 14, .inl a_state_snow)), (q0_state_path, .inl (E.2.1, 7, .inl a_state_path)), (q0_rule, .inr (4, [.ref q0_rule_code, .ref q0_rule_draft, .ref q0_rule_stack, .ref q0_rule_things, .int i_rule_length, .int i_rule_drafted])), (q0_rule_things, .inl (E.2.1, 8, .inl a_rule_things)), (q0_weather, .inr (10, [.ref q0_weather_inches, .int i_weather_length, .int i_weather_cycle])), (q0_weather_inches, .inl (E.2.1, 40, .inl a_weather_inches)), (q0_town_hold, .inl (E.2.1, 7, .inl a_town_hold)), (q0_rule_stack, .inl (E.2.1, 40, .inl a_rule_stack)), (q0_rule_code, .inl (E.2.1, 40, .inl a_rule_code)), (q0_state_debt, .inl (E.2.1, 49, .inl a_state_debt)), (q0_owedBy, .inl (E.2.1, 7, .inl a_owedBy))]
set_option maxHeartbeats 4000000 in
set_option maxRecDepth 20000 in
theorem kX9_slideOff (l : Launch) (E : ENV) (q0 : Nat) (q0_town : Nat) (q0_weather : Nat) (q0_rule : Nat) (q0_state : Nat) (q0_owedBy : Nat) (q0_town_hold : Nat) (q0_town_below : Nat) (q0_town_hay : Nat) (q0_state_snow : Nat) (q0_state_path : Nat) (q0_state_debt : Nat) (q0_rule_code : Nat) (q0_rule_draft : Nat) (q0_rule_stack : Nat) (q0_rule_things : Nat) (q0_weather_inches : Nat) (i_owed : Int32) (i_slides : Int32) (i_struck : Int32) (i_slid : Int32) (i_town_houses : Int32) (a_town_below : Nat → Int32) (i_state_now : Int32) (a_state_snow : Nat → Int32) (a_state_path : Nat → Int32) (i_rule_length : Int32) (i_rule_drafted : Int32) (a_rule_things : Nat → Int32) (i_weather_length : Int32) (i_weather_cycle : Int32) (a_weather_inches : Nat → Int32) (a_town_hold : Nat → Int32) (a_rule_stack : Nat → Int32) (a_rule_code : Nat → Int32) (a_state_debt : Nat → Int32) (a_owedBy : Nat → Int32) (p1 : Int32) (p2 : Int32) (p3 : Int32) (i_owed9 : Int32) (a_state_snow9 : Nat → Int32) (a_state_path9 : Nat → Int32) (a_rule_things9 : Nat → Int32) (a_rule_stack9 : Nat → Int32) (a_state_debt9 : Nat → Int32) (a_owedBy9 : Nat → Int32) (hf : fX9_slideOff i_owed i_town_houses a_town_below i_state_now a_state_snow a_state_path i_rule_length a_rule_things i_weather_cycle a_weather_inches a_town_hold a_rule_stack a_rule_code a_state_debt a_owedBy p1 p2 p3 = some (i_owed9, a_state_snow9, a_state_path9, a_rule_things9, a_rule_stack9, a_state_debt9, a_owedBy9)) : CV l E yX9_slideOff cX9_slideOff 8 2 [.ref q0, .int p1, .int p2, .int p3] (WX9_slideOff E q0 q0_town q0_weather q0_rule q0_state q0_owedBy q0_town_hold q0_town_below q0_town_hay q0_state_snow q0_state_path q0_state_debt q0_rule_code q0_rule_draft q0_rule_stack q0_rule_things q0_weather_inches i_owed i_slides i_struck i_slid i_town_houses a_town_below i_state_now a_state_snow a_state_path i_rule_length i_rule_drafted a_rule_things i_weather_length i_weather_cycle a_weather_inches a_town_hold a_rule_stack a_rule_code a_state_debt a_owedBy) (WX9_slideOff E q0 q0_town q0_weather q0_rule q0_state q0_owedBy q0_town_hold q0_town_below q0_town_hay q0_state_snow q0_state_path q0_state_debt q0_rule_code q0_rule_draft q0_rule_stack q0_rule_things q0_weather_inches i_owed9 i_slides i_struck i_slid i_town_houses a_town_below i_state_now a_state_snow9 a_state_path9 i_rule_length i_rule_drafted a_rule_things9 i_weather_length i_weather_cycle a_weather_inches a_town_hold a_rule_stack9 a_rule_code a_state_debt9 a_owedBy9) := by
  refine begV (by decide +kernel) (Nat.le_of_ble_eq_true rfl) ?_
  intro p e s m args below meth c A Q C hA hret
  have hx := C.1
  have hb := C.2.1
  have J189 : ∀ (v4 : Int32) (s0 : Int32) (s1 : Int32) (i_owed : Int32) (a_state_snow : Nat → Int32) (a_state_path : Nat → Int32) (a_rule_things : Nat → Int32) (a_rule_stack : Nat → Int32) (a_state_debt : Nat → Int32) (a_owedBy : Nat → Int32), fX9_slideOff_J189 i_rule_length a_rule_code p1 p2 v4 s0 s1 i_owed a_state_snow a_state_path a_rule_things a_rule_stack a_state_debt a_owedBy = some (i_owed9, a_state_snow9, a_state_path9, a_rule_things9, a_rule_stack9, a_state_debt9, a_owedBy9) → GO p l e 2 s m args below meth c Q E A 8 189 [.int s0, .int s1, .ref q0_rule_things] [(0, .ref q0), (1, .int p1), (2, .int p2), (4, .int v4)] (WX9_slideOff E q0 q0_town q0_weather q0_rule q0_state q0_owedBy q0_town_hold q0_town_below q0_town_hay q0_state_snow q0_state_path q0_state_debt q0_rule_code q0_rule_draft q0_rule_stack q0_rule_things q0_weather_inches i_owed i_slides i_struck i_slid i_town_houses a_town_below i_state_now a_state_snow a_state_path i_rule_length i_rule_drafted a_rule_things i_weather_length i_weather_cycle a_weather_inches a_town_hold a_rule_stack a_rule_code a_state_debt a_owedBy) := by
    intro v4 s0 s1 i_owed a_state_snow a_state_path a_rule_things a_rule_stack a_state_debt a_owedBy hf H locs ls hl hP hD hS
    unfold fX9_slideOff_J189 at hf
    obtain ⟨g22, hf⟩ := gd_some hf
    refine va_iast hx hb C.2.2.2.2.2.1 hP hD hS 7 0 rfl rfl (vin_in g22) dX9_slideOff_189 (fun H locs hP hD hS => ?_)
    have hP : va_P E.1 classes (WX9_slideOff E q0 q0_town q0_weather q0_rule q0_state q0_owedBy q0_town_hold q0_town_below q0_town_hay q0_state_snow q0_state_path q0_state_debt q0_rule_code q0_rule_draft q0_rule_stack q0_rule_things q0_weather_inches i_owed i_slides i_struck i_slid i_town_houses a_town_below i_state_now a_state_snow a_state_path i_rule_length i_rule_drafted ((upd a_rule_things (s1 : Int32).toNatClampNeg s0)) i_weather_length i_weather_cycle a_weather_inches a_town_hold a_rule_stack a_rule_code a_state_debt a_owedBy) H := hP
    have hD : va_D A (WX9_slideOff E q0 q0_town q0_weather q0_rule q0_state q0_owedBy q0_town_hold q0_town_below q0_town_hay q0_state_snow q0_state_path q0_state_debt q0_rule_code q0_rule_draft q0_rule_stack q0_rule_things q0_weather_inches i_owed i_slides i_struck i_slid i_town_houses a_town_below i_state_now a_state_snow a_state_path i_rule_length i_rule_drafted ((upd a_rule_things (s1 : Int32).toNatClampNeg s0)) i_weather_length i_weather_cycle a_weather_inches a_town_hold a_rule_stack a_rule_code a_state_debt a_owedBy) := hD
    refine lv_aload_n hx hb dX9_slideOff_190 rfl (lv_at hl 0 rfl) ?_
    refine gf_RX9_30 C hP 0 rfl rfl dX9_slideOff_191 ?_
    refine gf_RX9_119 C hP 6 rfl rfl dX9_slideOff_194 ?_
    refine lv_bipush (v := 6) hx hb dX9_slideOff_197 (by decide) ?_
    refine lv_iload_n hx hb dX9_slideOff_199 rfl (lv_at hl 1 rfl) ?_
    refine lv_iconst (v := 2) hx hb dX9_slideOff_200 (by decide) ?_
    refine lv_idiv hx hb dX9_slideOff_201 (by decide) ?_
    obtain ⟨g23, hf⟩ := gd_some hf
    refine va_iast hx hb C.2.2.2.2.2.1 hP hD hS 7 0 rfl rfl (vin_in g23) dX9_slideOff_202 (fun H locs hP hD hS => ?_)
    have hP : va_P E.1 classes (WX9_slideOff E q0 q0_town q0_weather q0_rule q0_state q0_owedBy q0_town_hold q0_town_below q0_town_hay q0_state_snow q0_state_path q0_state_debt q0_rule_code q0_rule_draft q0_rule_stack q0_rule_things q0_weather_inches i_owed i_slides i_struck i_slid i_town_houses a_town_below i_state_now a_state_snow a_state_path i_rule_length i_rule_drafted ((upd ((upd a_rule_things (s1 : Int32).toNatClampNeg s0)) (6 : Int32).toNatClampNeg ((p1 / 2)))) i_weather_length i_weather_cycle a_weather_inches a_town_hold a_rule_stack a_rule_code a_state_debt a_owedBy) H := hP
    have hD : va_D A (WX9_slideOff E q0 q0_town q0_weather q0_rule q0_state q0_owedBy q0_town_hold q0_town_below q0_town_hay q0_state_snow q0_state_path q0_state_debt q0_rule_code q0_rule_draft q0_rule_stack q0_rule_things q0_weather_inches i_owed i_slides i_struck i_slid i_town_houses a_town_below i_state_now a_state_snow a_state_path i_rule_length i_rule_drafted ((upd ((upd a_rule_things (s1 : Int32).toNatClampNeg s0)) (6 : Int32).toNatClampNeg ((p1 / 2)))) i_weather_length i_weather_cycle a_weather_inches a_town_hold a_rule_stack a_rule_code a_state_debt a_owedBy) := hD
    refine lv_aload_n hx hb dX9_slideOff_203 rfl (lv_at hl 0 rfl) ?_
    refine gf_RX9_30 C hP 0 rfl rfl dX9_slideOff_204 ?_
    refine gf_RX9_119 C hP 6 rfl rfl dX9_slideOff_207 ?_
    refine lv_bipush (v := 7) hx hb dX9_slideOff_210 (by decide) ?_
    refine lv_iload hx hb dX9_slideOff_212 (lv_at hl 3 rfl) ?_
    obtain ⟨g24, hf⟩ := gd_some hf
    refine va_iast hx hb C.2.2.2.2.2.1 hP hD hS 7 0 rfl rfl (vin_in g24) dX9_slideOff_214 (fun H locs hP hD hS => ?_)
    have hP : va_P E.1 classes (WX9_slideOff E q0 q0_town q0_weather q0_rule q0_state q0_owedBy q0_town_hold q0_town_below q0_town_hay q0_state_snow q0_state_path q0_state_debt q0_rule_code q0_rule_draft q0_rule_stack q0_rule_things q0_weather_inches i_owed i_slides i_struck i_slid i_town_houses a_town_below i_state_now a_state_snow a_state_path i_rule_length i_rule_drafted ((upd ((upd ((upd a_rule_things (s1 : Int32).toNatClampNeg s0)) (6 : Int32).toNatClampNeg ((p1 / 2)))) (7 : Int32).toNatClampNeg v4)) i_weather_length i_weather_cycle a_weather_inches a_town_hold a_rule_stack a_rule_code a_state_debt a_owedBy) H := hP
    have hD : va_D A (WX9_slideOff E q0 q0_town q0_weather q0_rule q0_state q0_owedBy q0_town_hold q0_town_below q0_town_hay q0_state_snow q0_state_path q0_state_debt q0_rule_code q0_rule_draft q0_rule_stack q0_rule_things q0_weather_inches i_owed i_slides i_struck i_slid i_town_houses a_town_below i_state_now a_state_snow a_state_path i_rule_length i_rule_drafted ((upd ((upd ((upd a_rule_things (s1 : Int32).toNatClampNeg s0)) (6 : Int32).toNatClampNeg ((p1 / 2)))) (7 : Int32).toNatClampNeg v4)) i_weather_length i_weather_cycle a_weather_inches a_town_hold a_rule_stack a_rule_code a_state_debt a_owedBy) := hD
    refine lv_aload_n hx hb dX9_slideOff_215 rfl (lv_at hl 0 rfl) ?_
    refine gf_RX9_30 C hP 0 rfl rfl dX9_slideOff_216 ?_
    obtain ⟨o25, hg26, hf⟩ := bd_some hf
    refine k_VI (As := []) C K_RX9_124 (Nat.le_of_ble_eq_true rfl) (Nat.le_of_ble_eq_true rfl) (kX4_daysOwed l E q0_rule q0_rule_code q0_rule_draft q0_rule_stack q0_rule_things i_rule_length i_rule_drafted ((upd ((upd ((upd a_rule_things (s1 : Int32).toNatClampNeg s0)) (6 : Int32).toNatClampNeg ((p1 / 2)))) (7 : Int32).toNatClampNeg v4)) a_rule_stack a_rule_code o25.1 o25.2 hg26) [6, 7, 11, 12] rfl rfl rfl (ci := 4) rfl rfl (q0 := 0) rfl hP hD hS hA hl.1 (Nat.le_of_ble_eq_true rfl) rfl dX9_slideOff_219 (fun H locs hP hD hS => ?_)
    have hP : va_P E.1 classes (WX9_slideOff E q0 q0_town q0_weather q0_rule q0_state q0_owedBy q0_town_hold q0_town_below q0_town_hay q0_state_snow q0_state_path q0_state_debt q0_rule_code q0_rule_draft q0_rule_stack q0_rule_things q0_weather_inches i_owed i_slides i_struck i_slid i_town_houses a_town_below i_state_now a_state_snow a_state_path i_rule_length i_rule_drafted ((upd ((upd ((upd a_rule_things (s1 : Int32).toNatClampNeg s0)) (6 : Int32).toNatClampNeg ((p1 / 2)))) (7 : Int32).toNatClampNeg v4)) i_weather_length i_weather_cycle a_weather_inches a_town_hold o25.2 a_rule_code a_state_debt a_owedBy) H := hP
    have hD : va_D A (WX9_slideOff E q0 q0_town q0_weather q0_rule q0_state q0_owedBy q0_town_hold q0_town_below q0_town_hay q0_state_snow q0_state_path q0_state_debt q0_rule_code q0_rule_draft q0_rule_stack q0_rule_things q0_weather_inches i_owed i_slides i_struck i_slid i_town_houses a_town_below i_state_now a_state_snow a_state_path i_rule_length i_rule_drafted ((upd ((upd ((upd a_rule_things (s1 : Int32).toNatClampNeg s0)) (6 : Int32).toNatClampNeg ((p1 / 2)))) (7 : Int32).toNatClampNeg v4)) i_weather_length i_weather_cycle a_weather_inches a_town_hold o25.2 a_rule_code a_state_debt a_owedBy) := hD
    refine lv_istore (lv' := [(7, .int o25.1), (0, .ref q0), (1, .int p1), (2, .int p2), (4, .int v4)]) hx hb dX9_slideOff_222 hl (by decide) rfl (fun ls hl => ?_)
    refine lv_aload_n hx hb dX9_slideOff_224 rfl (lv_at hl 1 rfl) ?_
    refine gf_RX9_12 C hP 0 rfl rfl dX9_slideOff_225 ?_
    refine lv_iload_n hx hb dX9_slideOff_228 rfl (lv_at hl 3 rfl) ?_
    refine lv_iload hx hb dX9_slideOff_229 (lv_at hl 4 rfl) ?_
    refine lv_iload hx hb dX9_slideOff_231 (lv_at hl 0 rfl) ?_
    obtain ⟨o27, hg28, hf⟩ := bd_some hf
    refine k_VV (As := [.int p2, .int v4, .int o25.1]) C K_RX9_128 (Nat.le_of_ble_eq_true rfl) (Nat.le_of_ble_eq_true rfl) (kX5_owe l E q0_state q0_state_snow q0_state_path q0_state_debt i_state_now a_state_debt p2 v4 o25.1 o27 hg28) [3, 13] rfl rfl rfl (ci := 5) rfl rfl (q0 := 0) rfl hP hD hS hA hl.1 (Nat.le_of_ble_eq_true rfl) rfl dX9_slideOff_233 (fun H locs hP hD hS => ?_)
    have hP : va_P E.1 classes (WX9_slideOff E q0 q0_town q0_weather q0_rule q0_state q0_owedBy q0_town_hold q0_town_below q0_town_hay q0_state_snow q0_state_path q0_state_debt q0_rule_code q0_rule_draft q0_rule_stack q0_rule_things q0_weather_inches i_owed i_slides i_struck i_slid i_town_houses a_town_below i_state_now a_state_snow a_state_path i_rule_length i_rule_drafted ((upd ((upd ((upd a_rule_things (s1 : Int32).toNatClampNeg s0)) (6 : Int32).toNatClampNeg ((p1 / 2)))) (7 : Int32).toNatClampNeg v4)) i_weather_length i_weather_cycle a_weather_inches a_town_hold o25.2 a_rule_code o27 a_owedBy) H := hP
    have hD : va_D A (WX9_slideOff E q0 q0_town q0_weather q0_rule q0_state q0_owedBy q0_town_hold q0_town_below q0_town_hay q0_state_snow q0_state_path q0_state_debt q0_rule_code q0_rule_draft q0_rule_stack q0_rule_things q0_weather_inches i_owed i_slides i_struck i_slid i_town_houses a_town_below i_state_now a_state_snow a_state_path i_rule_length i_rule_drafted ((upd ((upd ((upd a_rule_things (s1 : Int32).toNatClampNeg s0)) (6 : Int32).toNatClampNeg ((p1 / 2)))) (7 : Int32).toNatClampNeg v4)) i_weather_length i_weather_cycle a_weather_inches a_town_hold o25.2 a_rule_code o27 a_owedBy) := hD
    refine lv_aload_n hx hb dX9_slideOff_236 rfl (lv_at hl 1 rfl) ?_
    refine gf_RX9_18 C hP 0 rfl rfl dX9_slideOff_237 ?_
    refine lv_iload_n hx hb dX9_slideOff_240 rfl (lv_at hl 3 rfl) ?_
    refine lv_dup2_11 hx hb dX9_slideOff_241 rfl rfl ?_
    obtain ⟨g29, hf⟩ := gd_some hf
    refine va_iald hx hb C.2.2.2.2.2.1 hP 14 0 rfl rfl (vin_in g29) dX9_slideOff_242 ?_
    refine lv_iload hx hb dX9_slideOff_243 (lv_at hl 0 rfl) ?_
    refine lv_iadd hx hb dX9_slideOff_245 ?_
    obtain ⟨g30, hf⟩ := gd_some hf
    refine va_iast hx hb C.2.2.2.2.2.1 hP hD hS 14 0 rfl rfl (vin_in g30) dX9_slideOff_246 (fun H locs hP hD hS => ?_)
    have hP : va_P E.1 classes (WX9_slideOff E q0 q0_town q0_weather q0_rule q0_state q0_owedBy q0_town_hold q0_town_below q0_town_hay q0_state_snow q0_state_path q0_state_debt q0_rule_code q0_rule_draft q0_rule_stack q0_rule_things q0_weather_inches i_owed i_slides i_struck i_slid i_town_houses a_town_below i_state_now a_state_snow a_state_path i_rule_length i_rule_drafted ((upd ((upd ((upd a_rule_things (s1 : Int32).toNatClampNeg s0)) (6 : Int32).toNatClampNeg ((p1 / 2)))) (7 : Int32).toNatClampNeg v4)) i_weather_length i_weather_cycle a_weather_inches a_town_hold o25.2 a_rule_code o27 ((upd a_owedBy (p2 : Int32).toNatClampNeg ((((a_owedBy (p2 : Int32).toNatClampNeg)) + o25.1))))) H := hP
    have hD : va_D A (WX9_slideOff E q0 q0_town q0_weather q0_rule q0_state q0_owedBy q0_town_hold q0_town_below q0_town_hay q0_state_snow q0_state_path q0_state_debt q0_rule_code q0_rule_draft q0_rule_stack q0_rule_things q0_weather_inches i_owed i_slides i_struck i_slid i_town_houses a_town_below i_state_now a_state_snow a_state_path i_rule_length i_rule_drafted ((upd ((upd ((upd a_rule_things (s1 : Int32).toNatClampNeg s0)) (6 : Int32).toNatClampNeg ((p1 / 2)))) (7 : Int32).toNatClampNeg v4)) i_weather_length i_weather_cycle a_weather_inches a_town_hold o25.2 a_rule_code o27 ((upd a_owedBy (p2 : Int32).toNatClampNeg ((((a_owedBy (p2 : Int32).toNatClampNeg)) + o25.1))))) := hD
    refine lv_aload_n hx hb dX9_slideOff_247 rfl (lv_at hl 1 rfl) ?_
    refine lv_dup hx hb dX9_slideOff_248 rfl ?_
    refine gf_RX9_53 C hP 0 rfl rfl dX9_slideOff_249 ?_
    refine lv_iload hx hb dX9_slideOff_252 (lv_at hl 0 rfl) ?_
    refine lv_iadd hx hb dX9_slideOff_254 ?_
    refine pf_RX9_53 C hP hD hS 0 rfl (Nat.le_of_ble_eq_true rfl) dX9_slideOff_255 (fun H locs hP hD hS => ?_)
    have hP : va_P E.1 classes (WX9_slideOff E q0 q0_town q0_weather q0_rule q0_state q0_owedBy q0_town_hold q0_town_below q0_town_hay q0_state_snow q0_state_path q0_state_debt q0_rule_code q0_rule_draft q0_rule_stack q0_rule_things q0_weather_inches ((i_owed + o25.1)) i_slides i_struck i_slid i_town_houses a_town_below i_state_now a_state_snow a_state_path i_rule_length i_rule_drafted ((upd ((upd ((upd a_rule_things (s1 : Int32).toNatClampNeg s0)) (6 : Int32).toNatClampNeg ((p1 / 2)))) (7 : Int32).toNatClampNeg v4)) i_weather_length i_weather_cycle a_weather_inches a_town_hold o25.2 a_rule_code o27 ((upd a_owedBy (p2 : Int32).toNatClampNeg ((((a_owedBy (p2 : Int32).toNatClampNeg)) + o25.1))))) H := hP
    have hD : va_D A (WX9_slideOff E q0 q0_town q0_weather q0_rule q0_state q0_owedBy q0_town_hold q0_town_below q0_town_hay q0_state_snow q0_state_path q0_state_debt q0_rule_code q0_rule_draft q0_rule_stack q0_rule_things q0_weather_inches ((i_owed + o25.1)) i_slides i_struck i_slid i_town_houses a_town_below i_state_now a_state_snow a_state_path i_rule_length i_rule_drafted ((upd ((upd ((upd a_rule_things (s1 : Int32).toNatClampNeg s0)) (6 : Int32).toNatClampNeg ((p1 / 2)))) (7 : Int32).toNatClampNeg v4)) i_weather_length i_weather_cycle a_weather_inches a_town_hold o25.2 a_rule_code o27 ((upd a_owedBy (p2 : Int32).toNatClampNeg ((((a_owedBy (p2 : Int32).toNatClampNeg)) + o25.1))))) := hD
    have hj0 := Option.some.inj hf
    obtain ⟨ha0, hj1⟩ := Prod.mk.inj hj0
    obtain ⟨ha1, hj2⟩ := Prod.mk.inj hj1
    obtain ⟨ha2, hj3⟩ := Prod.mk.inj hj2
    obtain ⟨ha3, hj4⟩ := Prod.mk.inj hj3
    obtain ⟨ha4, hj5⟩ := Prod.mk.inj hj4
    obtain ⟨ha5, hj6⟩ := Prod.mk.inj hj5
    subst ha0
    subst ha1
    subst ha2
    subst ha3
    subst ha4
    subst ha5
    subst hj6
    exact hret _ _ _ _ dX9_slideOff_258 hP hD hS
  intro H locs ls hl hP hD hS
  have hl : lv_has ls 8 [(0, .ref q0), (1, .int p1), (2, .int p2), (3, .int p3)] := hl
  unfold fX9_slideOff at hf
  refine lv_aload_n hx hb dX9_slideOff_0 rfl (lv_at hl 0 rfl) ?_
  refine gf_RX9_22 C hP 0 rfl rfl dX9_slideOff_1 ?_
  refine gf_RX9_102 C hP 1 rfl rfl dX9_slideOff_4 ?_
  refine lv_iload_n hx hb dX9_slideOff_7 rfl (lv_at hl 1 rfl) ?_
  obtain ⟨g1, hf⟩ := gd_some hf
  refine va_iald hx hb C.2.2.2.2.2.1 hP 2 0 rfl rfl (vin_in g1) dX9_slideOff_8 ?_
  refine lv_istore (lv' := [(4, .int ((a_town_below (p1 : Int32).toNatClampNeg))), (0, .ref q0), (1, .int p1), (2, .int p2), (3, .int p3)]) hx hb dX9_slideOff_9 hl (by decide) rfl (fun ls hl => ?_)
  refine lv_aload_n hx hb dX9_slideOff_11 rfl (lv_at hl 1 rfl) ?_
  refine gf_RX9_12 C hP 0 rfl rfl dX9_slideOff_12 ?_
  refine gf_RX9_96 C hP 3 rfl rfl dX9_slideOff_15 ?_
  refine lv_iload_n hx hb dX9_slideOff_18 rfl (lv_at hl 2 rfl) ?_
  obtain ⟨g2, hf⟩ := gd_some hf
  refine va_iald hx hb C.2.2.2.2.2.1 hP 4 0 rfl rfl (vin_in g2) dX9_slideOff_19 ?_
  refine lv_istore (lv' := [(5, .int ((a_state_snow (p1 : Int32).toNatClampNeg))), (4, .int ((a_town_below (p1 : Int32).toNatClampNeg))), (0, .ref q0), (1, .int p1), (2, .int p2), (3, .int p3)]) hx hb dX9_slideOff_20 hl (by decide) rfl (fun ls hl => ?_)
  refine lv_aload_n hx hb dX9_slideOff_22 rfl (lv_at hl 2 rfl) ?_
  refine gf_RX9_12 C hP 0 rfl rfl dX9_slideOff_23 ?_
  refine gf_RX9_96 C hP 3 rfl rfl dX9_slideOff_26 ?_
  refine lv_iload_n hx hb dX9_slideOff_29 rfl (lv_at hl 3 rfl) ?_
  refine lv_iconst (v := 0) hx hb dX9_slideOff_30 (by decide) ?_
  obtain ⟨g3, hf⟩ := gd_some hf
  refine va_iast hx hb C.2.2.2.2.2.1 hP hD hS 4 0 rfl rfl (vin_in g3) dX9_slideOff_31 (fun H locs hP hD hS => ?_)
  have hP : va_P E.1 classes (WX9_slideOff E q0 q0_town q0_weather q0_rule q0_state q0_owedBy q0_town_hold q0_town_below q0_town_hay q0_state_snow q0_state_path q0_state_debt q0_rule_code q0_rule_draft q0_rule_stack q0_rule_things q0_weather_inches i_owed i_slides i_struck i_slid i_town_houses a_town_below i_state_now ((upd a_state_snow (p1 : Int32).toNatClampNeg 0)) a_state_path i_rule_length i_rule_drafted a_rule_things i_weather_length i_weather_cycle a_weather_inches a_town_hold a_rule_stack a_rule_code a_state_debt a_owedBy) H := hP
  have hD : va_D A (WX9_slideOff E q0 q0_town q0_weather q0_rule q0_state q0_owedBy q0_town_hold q0_town_below q0_town_hay q0_state_snow q0_state_path q0_state_debt q0_rule_code q0_rule_draft q0_rule_stack q0_rule_things q0_weather_inches i_owed i_slides i_struck i_slid i_town_houses a_town_below i_state_now ((upd a_state_snow (p1 : Int32).toNatClampNeg 0)) a_state_path i_rule_length i_rule_drafted a_rule_things i_weather_length i_weather_cycle a_weather_inches a_town_hold a_rule_stack a_rule_code a_state_debt a_owedBy) := hD
  refine lv_aload_n hx hb dX9_slideOff_32 rfl (lv_at hl 2 rfl) ?_
  refine gf_RX9_22 C hP 0 rfl rfl dX9_slideOff_33 ?_
  refine lv_iload hx hb dX9_slideOff_36 (lv_at hl 1 rfl) ?_
  obtain ⟨o4, hg5, hf⟩ := bd_some hf
  refine k_VI (As := [.int ((a_town_below (p1 : Int32).toNatClampNeg))]) C K_RX9_115 (Nat.le_of_ble_eq_true rfl) (Nat.le_of_ble_eq_true rfl) (kX7_has l E q0_town q0_town_hold q0_town_below q0_town_hay i_town_houses ((a_town_below (p1 : Int32).toNatClampNeg)) o4 hg5) [1] rfl rfl rfl (ci := 7) rfl rfl (q0 := 0) rfl hP hD hS hA hl.1 (Nat.le_of_ble_eq_true rfl) rfl dX9_slideOff_38 (fun H locs hP hD hS => ?_)
  have hP : va_P E.1 classes (WX9_slideOff E q0 q0_town q0_weather q0_rule q0_state q0_owedBy q0_town_hold q0_town_below q0_town_hay q0_state_snow q0_state_path q0_state_debt q0_rule_code q0_rule_draft q0_rule_stack q0_rule_things q0_weather_inches i_owed i_slides i_struck i_slid i_town_houses a_town_below i_state_now ((upd a_state_snow (p1 : Int32).toNatClampNeg 0)) a_state_path i_rule_length i_rule_drafted a_rule_things i_weather_length i_weather_cycle a_weather_inches a_town_hold a_rule_stack a_rule_code a_state_debt a_owedBy) H := hP
  have hD : va_D A (WX9_slideOff E q0 q0_town q0_weather q0_rule q0_state q0_owedBy q0_town_hold q0_town_below q0_town_hay q0_state_snow q0_state_path q0_state_debt q0_rule_code q0_rule_draft q0_rule_stack q0_rule_things q0_weather_inches i_owed i_slides i_struck i_slid i_town_houses a_town_below i_state_now ((upd a_state_snow (p1 : Int32).toNatClampNeg 0)) a_state_path i_rule_length i_rule_drafted a_rule_things i_weather_length i_weather_cycle a_weather_inches a_town_hold a_rule_stack a_rule_code a_state_debt a_owedBy) := hD
  refine lv_if_ne (tgt := 45) hx hb dX9_slideOff_41 (by decide) (fun c6 => ?_) (fun c6 => ?_)
  · rw [if_neg c6] at hf
    refine lv_aload_n hx hb dX9_slideOff_45 rfl (lv_at hl 2 rfl) ?_
    refine gf_RX9_12 C hP 0 rfl rfl dX9_slideOff_46 ?_
    refine gf_RX9_112 C hP 3 rfl rfl dX9_slideOff_49 ?_
    refine lv_iload hx hb dX9_slideOff_52 (lv_at hl 1 rfl) ?_
    obtain ⟨g7, hf⟩ := gd_some hf
    refine va_iald hx hb C.2.2.2.2.2.1 hP 5 0 rfl rfl (vin_in g7) dX9_slideOff_54 ?_
    refine lv_istore (lv' := [(6, .int ((a_state_path ((a_town_below (p1 : Int32).toNatClampNeg) : Int32).toNatClampNeg))), (5, .int ((a_state_snow (p1 : Int32).toNatClampNeg))), (4, .int ((a_town_below (p1 : Int32).toNatClampNeg))), (0, .ref q0), (1, .int p1), (2, .int p2), (3, .int p3)]) hx hb dX9_slideOff_55 hl (by decide) rfl (fun ls hl => ?_)
    refine lv_aload_n hx hb dX9_slideOff_57 rfl (lv_at hl 3 rfl) ?_
    refine gf_RX9_12 C hP 0 rfl rfl dX9_slideOff_58 ?_
    refine gf_RX9_112 C hP 3 rfl rfl dX9_slideOff_61 ?_
    refine lv_iload hx hb dX9_slideOff_64 (lv_at hl 2 rfl) ?_
    refine lv_iload hx hb dX9_slideOff_66 (lv_at hl 0 rfl) ?_
    refine lv_iload hx hb dX9_slideOff_68 (lv_at hl 1 rfl) ?_
    refine lv_iadd hx hb dX9_slideOff_70 ?_
    obtain ⟨o8, hg9, hf⟩ := bd_some hf
    refine k_SNI (As := [.int ((((a_state_path ((a_town_below (p1 : Int32).toNatClampNeg) : Int32).toNatClampNeg)) + ((a_state_snow (p1 : Int32).toNatClampNeg))))]) C K_RX9_109 (Nat.le_of_ble_eq_true rfl) (Nat.le_of_ble_eq_true rfl) (kX5_lying l E ((((a_state_path ((a_town_below (p1 : Int32).toNatClampNeg) : Int32).toNatClampNeg)) + ((a_state_snow (p1 : Int32).toNatClampNeg)))) o8 hg9) [] rfl rfl rfl  hP hD hS hA hl.1 (Nat.le_of_ble_eq_true rfl) rfl dX9_slideOff_71 (fun H locs hP hD hS => ?_)
    have hP : va_P E.1 classes (WX9_slideOff E q0 q0_town q0_weather q0_rule q0_state q0_owedBy q0_town_hold q0_town_below q0_town_hay q0_state_snow q0_state_path q0_state_debt q0_rule_code q0_rule_draft q0_rule_stack q0_rule_things q0_weather_inches i_owed i_slides i_struck i_slid i_town_houses a_town_below i_state_now ((upd a_state_snow (p1 : Int32).toNatClampNeg 0)) a_state_path i_rule_length i_rule_drafted a_rule_things i_weather_length i_weather_cycle a_weather_inches a_town_hold a_rule_stack a_rule_code a_state_debt a_owedBy) H := hP
    have hD : va_D A (WX9_slideOff E q0 q0_town q0_weather q0_rule q0_state q0_owedBy q0_town_hold q0_town_below q0_town_hay q0_state_snow q0_state_path q0_state_debt q0_rule_code q0_rule_draft q0_rule_stack q0_rule_things q0_weather_inches i_owed i_slides i_struck i_slid i_town_houses a_town_below i_state_now ((upd a_state_snow (p1 : Int32).toNatClampNeg 0)) a_state_path i_rule_length i_rule_drafted a_rule_things i_weather_length i_weather_cycle a_weather_inches a_town_hold a_rule_stack a_rule_code a_state_debt a_owedBy) := hD
    obtain ⟨g10, hf⟩ := gd_some hf
    refine va_iast hx hb C.2.2.2.2.2.1 hP hD hS 5 0 rfl rfl (vin_in g10) dX9_slideOff_74 (fun H locs hP hD hS => ?_)
    have hP : va_P E.1 classes (WX9_slideOff E q0 q0_town q0_weather q0_rule q0_state q0_owedBy q0_town_hold q0_town_below q0_town_hay q0_state_snow q0_state_path q0_state_debt q0_rule_code q0_rule_draft q0_rule_stack q0_rule_things q0_weather_inches i_owed i_slides i_struck i_slid i_town_houses a_town_below i_state_now ((upd a_state_snow (p1 : Int32).toNatClampNeg 0)) ((upd a_state_path ((a_town_below (p1 : Int32).toNatClampNeg) : Int32).toNatClampNeg o8)) i_rule_length i_rule_drafted a_rule_things i_weather_length i_weather_cycle a_weather_inches a_town_hold a_rule_stack a_rule_code a_state_debt a_owedBy) H := hP
    have hD : va_D A (WX9_slideOff E q0 q0_town q0_weather q0_rule q0_state q0_owedBy q0_town_hold q0_town_below q0_town_hay q0_state_snow q0_state_path q0_state_debt q0_rule_code q0_rule_draft q0_rule_stack q0_rule_things q0_weather_inches i_owed i_slides i_struck i_slid i_town_houses a_town_below i_state_now ((upd a_state_snow (p1 : Int32).toNatClampNeg 0)) ((upd a_state_path ((a_town_below (p1 : Int32).toNatClampNeg) : Int32).toNatClampNeg o8)) i_rule_length i_rule_drafted a_rule_things i_weather_length i_weather_cycle a_weather_inches a_town_hold a_rule_stack a_rule_code a_state_debt a_owedBy) := hD
    refine lv_iload hx hb dX9_slideOff_75 (lv_at hl 1 rfl) ?_
    refine lv_if_le (tgt := 258) hx hb dX9_slideOff_77 (by decide) (fun c11 => ?_) (fun c11 => ?_)
    · rw [if_pos c11] at hf
      have hj0 := Option.some.inj hf
      obtain ⟨ha0, hj1⟩ := Prod.mk.inj hj0
      obtain ⟨ha1, hj2⟩ := Prod.mk.inj hj1
      obtain ⟨ha2, hj3⟩ := Prod.mk.inj hj2
      obtain ⟨ha3, hj4⟩ := Prod.mk.inj hj3
      obtain ⟨ha4, hj5⟩ := Prod.mk.inj hj4
      obtain ⟨ha5, hj6⟩ := Prod.mk.inj hj5
      subst ha0
      subst ha1
      subst ha2
      subst ha3
      subst ha4
      subst ha5
      subst hj6
      exact hret _ _ _ _ dX9_slideOff_258 hP hD hS
    · rw [if_neg c11] at hf
      refine lv_iload_n hx hb dX9_slideOff_80 rfl (lv_at hl 5 rfl) ?_
      refine lv_iload hx hb dX9_slideOff_81 (lv_at hl 2 rfl) ?_
      refine lv_icmp_eq (tgt := 258) hx hb dX9_slideOff_83 (by decide) (fun c12 => ?_) (fun c12 => ?_)
      · rw [if_pos c12] at hf
        have hj0 := Option.some.inj hf
        obtain ⟨ha0, hj1⟩ := Prod.mk.inj hj0
        obtain ⟨ha1, hj2⟩ := Prod.mk.inj hj1
        obtain ⟨ha2, hj3⟩ := Prod.mk.inj hj2
        obtain ⟨ha3, hj4⟩ := Prod.mk.inj hj3
        obtain ⟨ha4, hj5⟩ := Prod.mk.inj hj4
        obtain ⟨ha5, hj6⟩ := Prod.mk.inj hj5
        subst ha0
        subst ha1
        subst ha2
        subst ha3
        subst ha4
        subst ha5
        subst hj6
        exact hret _ _ _ _ dX9_slideOff_258 hP hD hS
      · rw [if_neg c12] at hf
        refine lv_aload_n hx hb dX9_slideOff_86 rfl (lv_at hl 3 rfl) ?_
        refine gf_RX9_30 C hP 0 rfl rfl dX9_slideOff_87 ?_
        refine gf_RX9_119 C hP 6 rfl rfl dX9_slideOff_90 ?_
        refine lv_iconst (v := 0) hx hb dX9_slideOff_93 (by decide) ?_
        refine lv_iload hx hb dX9_slideOff_94 (lv_at hl 1 rfl) ?_
        obtain ⟨g13, hf⟩ := gd_some hf
        refine va_iast hx hb C.2.2.2.2.2.1 hP hD hS 7 0 rfl rfl (vin_in g13) dX9_slideOff_96 (fun H locs hP hD hS => ?_)
        have hP : va_P E.1 classes (WX9_slideOff E q0 q0_town q0_weather q0_rule q0_state q0_owedBy q0_town_hold q0_town_below q0_town_hay q0_state_snow q0_state_path q0_state_debt q0_rule_code q0_rule_draft q0_rule_stack q0_rule_things q0_weather_inches i_owed i_slides i_struck i_slid i_town_houses a_town_below i_state_now ((upd a_state_snow (p1 : Int32).toNatClampNeg 0)) ((upd a_state_path ((a_town_below (p1 : Int32).toNatClampNeg) : Int32).toNatClampNeg o8)) i_rule_length i_rule_drafted ((upd a_rule_things (0 : Int32).toNatClampNeg ((a_state_snow (p1 : Int32).toNatClampNeg)))) i_weather_length i_weather_cycle a_weather_inches a_town_hold a_rule_stack a_rule_code a_state_debt a_owedBy) H := hP
        have hD : va_D A (WX9_slideOff E q0 q0_town q0_weather q0_rule q0_state q0_owedBy q0_town_hold q0_town_below q0_town_hay q0_state_snow q0_state_path q0_state_debt q0_rule_code q0_rule_draft q0_rule_stack q0_rule_things q0_weather_inches i_owed i_slides i_struck i_slid i_town_houses a_town_below i_state_now ((upd a_state_snow (p1 : Int32).toNatClampNeg 0)) ((upd a_state_path ((a_town_below (p1 : Int32).toNatClampNeg) : Int32).toNatClampNeg o8)) i_rule_length i_rule_drafted ((upd a_rule_things (0 : Int32).toNatClampNeg ((a_state_snow (p1 : Int32).toNatClampNeg)))) i_weather_length i_weather_cycle a_weather_inches a_town_hold a_rule_stack a_rule_code a_state_debt a_owedBy) := hD
        refine lv_aload_n hx hb dX9_slideOff_97 rfl (lv_at hl 3 rfl) ?_
        refine gf_RX9_30 C hP 0 rfl rfl dX9_slideOff_98 ?_
        refine gf_RX9_119 C hP 6 rfl rfl dX9_slideOff_101 ?_
        refine lv_iconst (v := 1) hx hb dX9_slideOff_104 (by decide) ?_
        refine lv_iload hx hb dX9_slideOff_105 (lv_at hl 0 rfl) ?_
        obtain ⟨g14, hf⟩ := gd_some hf
        refine va_iast hx hb C.2.2.2.2.2.1 hP hD hS 7 0 rfl rfl (vin_in g14) dX9_slideOff_107 (fun H locs hP hD hS => ?_)
        have hP : va_P E.1 classes (WX9_slideOff E q0 q0_town q0_weather q0_rule q0_state q0_owedBy q0_town_hold q0_town_below q0_town_hay q0_state_snow q0_state_path q0_state_debt q0_rule_code q0_rule_draft q0_rule_stack q0_rule_things q0_weather_inches i_owed i_slides i_struck i_slid i_town_houses a_town_below i_state_now ((upd a_state_snow (p1 : Int32).toNatClampNeg 0)) ((upd a_state_path ((a_town_below (p1 : Int32).toNatClampNeg) : Int32).toNatClampNeg o8)) i_rule_length i_rule_drafted ((upd ((upd a_rule_things (0 : Int32).toNatClampNeg ((a_state_snow (p1 : Int32).toNatClampNeg)))) (1 : Int32).toNatClampNeg ((a_state_path ((a_town_below (p1 : Int32).toNatClampNeg) : Int32).toNatClampNeg)))) i_weather_length i_weather_cycle a_weather_inches a_town_hold a_rule_stack a_rule_code a_state_debt a_owedBy) H := hP
        have hD : va_D A (WX9_slideOff E q0 q0_town q0_weather q0_rule q0_state q0_owedBy q0_town_hold q0_town_below q0_town_hay q0_state_snow q0_state_path q0_state_debt q0_rule_code q0_rule_draft q0_rule_stack q0_rule_things q0_weather_inches i_owed i_slides i_struck i_slid i_town_houses a_town_below i_state_now ((upd a_state_snow (p1 : Int32).toNatClampNeg 0)) ((upd a_state_path ((a_town_below (p1 : Int32).toNatClampNeg) : Int32).toNatClampNeg o8)) i_rule_length i_rule_drafted ((upd ((upd a_rule_things (0 : Int32).toNatClampNeg ((a_state_snow (p1 : Int32).toNatClampNeg)))) (1 : Int32).toNatClampNeg ((a_state_path ((a_town_below (p1 : Int32).toNatClampNeg) : Int32).toNatClampNeg)))) i_weather_length i_weather_cycle a_weather_inches a_town_hold a_rule_stack a_rule_code a_state_debt a_owedBy) := hD
        refine lv_aload_n hx hb dX9_slideOff_108 rfl (lv_at hl 3 rfl) ?_
        refine gf_RX9_30 C hP 0 rfl rfl dX9_slideOff_109 ?_
        refine gf_RX9_119 C hP 6 rfl rfl dX9_slideOff_112 ?_
        refine lv_iconst (v := 2) hx hb dX9_slideOff_115 (by decide) ?_
        refine lv_iconst (v := 0) hx hb dX9_slideOff_116 (by decide) ?_
        refine lv_aload_n hx hb dX9_slideOff_117 rfl (lv_at hl 3 rfl) ?_
        refine gf_RX9_26 C hP 0 rfl rfl dX9_slideOff_118 ?_
        refine lv_aload_n hx hb dX9_slideOff_121 rfl (lv_at hl 3 rfl) ?_
        refine gf_RX9_12 C hP 0 rfl rfl dX9_slideOff_122 ?_
        refine gf_RX9_72 C hP 3 rfl rfl dX9_slideOff_125 ?_
        obtain ⟨o15, hg16, hf⟩ := bd_some hf
        refine k_VI (As := [.int i_state_now]) C K_RX9_75 (Nat.le_of_ble_eq_true rfl) (Nat.le_of_ble_eq_true rfl) (kX10_inchesIn l E q0_weather q0_weather_inches i_weather_length i_weather_cycle a_weather_inches i_state_now o15 hg16) [8, 9] rfl rfl rfl (ci := 10) rfl rfl (q0 := 0) rfl hP hD hS hA hl.1 (Nat.le_of_ble_eq_true rfl) rfl dX9_slideOff_128 (fun H locs hP hD hS => ?_)
        have hP : va_P E.1 classes (WX9_slideOff E q0 q0_town q0_weather q0_rule q0_state q0_owedBy q0_town_hold q0_town_below q0_town_hay q0_state_snow q0_state_path q0_state_debt q0_rule_code q0_rule_draft q0_rule_stack q0_rule_things q0_weather_inches i_owed i_slides i_struck i_slid i_town_houses a_town_below i_state_now ((upd a_state_snow (p1 : Int32).toNatClampNeg 0)) ((upd a_state_path ((a_town_below (p1 : Int32).toNatClampNeg) : Int32).toNatClampNeg o8)) i_rule_length i_rule_drafted ((upd ((upd a_rule_things (0 : Int32).toNatClampNeg ((a_state_snow (p1 : Int32).toNatClampNeg)))) (1 : Int32).toNatClampNeg ((a_state_path ((a_town_below (p1 : Int32).toNatClampNeg) : Int32).toNatClampNeg)))) i_weather_length i_weather_cycle a_weather_inches a_town_hold a_rule_stack a_rule_code a_state_debt a_owedBy) H := hP
        have hD : va_D A (WX9_slideOff E q0 q0_town q0_weather q0_rule q0_state q0_owedBy q0_town_hold q0_town_below q0_town_hay q0_state_snow q0_state_path q0_state_debt q0_rule_code q0_rule_draft q0_rule_stack q0_rule_things q0_weather_inches i_owed i_slides i_struck i_slid i_town_houses a_town_below i_state_now ((upd a_state_snow (p1 : Int32).toNatClampNeg 0)) ((upd a_state_path ((a_town_below (p1 : Int32).toNatClampNeg) : Int32).toNatClampNeg o8)) i_rule_length i_rule_drafted ((upd ((upd a_rule_things (0 : Int32).toNatClampNeg ((a_state_snow (p1 : Int32).toNatClampNeg)))) (1 : Int32).toNatClampNeg ((a_state_path ((a_town_below (p1 : Int32).toNatClampNeg) : Int32).toNatClampNeg)))) i_weather_length i_weather_cycle a_weather_inches a_town_hold a_rule_stack a_rule_code a_state_debt a_owedBy) := hD
        refine lv_ineg hx hb dX9_slideOff_131 ?_
        refine r_max C q789 (Nat.le_of_ble_eq_true rfl) hl.1 (Nat.le_of_ble_eq_true rfl) dX9_slideOff_132 ?_
        obtain ⟨g17, hf⟩ := gd_some hf
        refine va_iast hx hb C.2.2.2.2.2.1 hP hD hS 7 0 rfl rfl (vin_in g17) dX9_slideOff_135 (fun H locs hP hD hS => ?_)
        have hP : va_P E.1 classes (WX9_slideOff E q0 q0_town q0_weather q0_rule q0_state q0_owedBy q0_town_hold q0_town_below q0_town_hay q0_state_snow q0_state_path q0_state_debt q0_rule_code q0_rule_draft q0_rule_stack q0_rule_things q0_weather_inches i_owed i_slides i_struck i_slid i_town_houses a_town_below i_state_now ((upd a_state_snow (p1 : Int32).toNatClampNeg 0)) ((upd a_state_path ((a_town_below (p1 : Int32).toNatClampNeg) : Int32).toNatClampNeg o8)) i_rule_length i_rule_drafted ((upd ((upd ((upd a_rule_things (0 : Int32).toNatClampNeg ((a_state_snow (p1 : Int32).toNatClampNeg)))) (1 : Int32).toNatClampNeg ((a_state_path ((a_town_below (p1 : Int32).toNatClampNeg) : Int32).toNatClampNeg)))) (2 : Int32).toNatClampNeg ((mx 0 ((-o15)))))) i_weather_length i_weather_cycle a_weather_inches a_town_hold a_rule_stack a_rule_code a_state_debt a_owedBy) H := hP
        have hD : va_D A (WX9_slideOff E q0 q0_town q0_weather q0_rule q0_state q0_owedBy q0_town_hold q0_town_below q0_town_hay q0_state_snow q0_state_path q0_state_debt q0_rule_code q0_rule_draft q0_rule_stack q0_rule_things q0_weather_inches i_owed i_slides i_struck i_slid i_town_houses a_town_below i_state_now ((upd a_state_snow (p1 : Int32).toNatClampNeg 0)) ((upd a_state_path ((a_town_below (p1 : Int32).toNatClampNeg) : Int32).toNatClampNeg o8)) i_rule_length i_rule_drafted ((upd ((upd ((upd a_rule_things (0 : Int32).toNatClampNeg ((a_state_snow (p1 : Int32).toNatClampNeg)))) (1 : Int32).toNatClampNeg ((a_state_path ((a_town_below (p1 : Int32).toNatClampNeg) : Int32).toNatClampNeg)))) (2 : Int32).toNatClampNeg ((mx 0 ((-o15)))))) i_weather_length i_weather_cycle a_weather_inches a_town_hold a_rule_stack a_rule_code a_state_debt a_owedBy) := hD
        refine lv_aload_n hx hb dX9_slideOff_136 rfl (lv_at hl 3 rfl) ?_
        refine gf_RX9_30 C hP 0 rfl rfl dX9_slideOff_137 ?_
        refine gf_RX9_119 C hP 6 rfl rfl dX9_slideOff_140 ?_
        refine lv_iconst (v := 3) hx hb dX9_slideOff_143 (by decide) ?_
        refine lv_aload_n hx hb dX9_slideOff_144 rfl (lv_at hl 3 rfl) ?_
        refine gf_RX9_22 C hP 0 rfl rfl dX9_slideOff_145 ?_
        refine gf_RX9_99 C hP 1 rfl rfl dX9_slideOff_148 ?_
        refine lv_iload_n hx hb dX9_slideOff_151 rfl (lv_at hl 4 rfl) ?_
        refine lv_iconst (v := 2) hx hb dX9_slideOff_152 (by decide) ?_
        refine lv_idiv hx hb dX9_slideOff_153 (by decide) ?_
        obtain ⟨g18, hf⟩ := gd_some hf
        refine va_iald hx hb C.2.2.2.2.2.1 hP 10 0 rfl rfl (vin_in g18) dX9_slideOff_154 ?_
        obtain ⟨g19, hf⟩ := gd_some hf
        refine va_iast hx hb C.2.2.2.2.2.1 hP hD hS 7 0 rfl rfl (vin_in g19) dX9_slideOff_155 (fun H locs hP hD hS => ?_)
        have hP : va_P E.1 classes (WX9_slideOff E q0 q0_town q0_weather q0_rule q0_state q0_owedBy q0_town_hold q0_town_below q0_town_hay q0_state_snow q0_state_path q0_state_debt q0_rule_code q0_rule_draft q0_rule_stack q0_rule_things q0_weather_inches i_owed i_slides i_struck i_slid i_town_houses a_town_below i_state_now ((upd a_state_snow (p1 : Int32).toNatClampNeg 0)) ((upd a_state_path ((a_town_below (p1 : Int32).toNatClampNeg) : Int32).toNatClampNeg o8)) i_rule_length i_rule_drafted ((upd ((upd ((upd ((upd a_rule_things (0 : Int32).toNatClampNeg ((a_state_snow (p1 : Int32).toNatClampNeg)))) (1 : Int32).toNatClampNeg ((a_state_path ((a_town_below (p1 : Int32).toNatClampNeg) : Int32).toNatClampNeg)))) (2 : Int32).toNatClampNeg ((mx 0 ((-o15)))))) (3 : Int32).toNatClampNeg ((a_town_hold ((p1 / 2) : Int32).toNatClampNeg)))) i_weather_length i_weather_cycle a_weather_inches a_town_hold a_rule_stack a_rule_code a_state_debt a_owedBy) H := hP
        have hD : va_D A (WX9_slideOff E q0 q0_town q0_weather q0_rule q0_state q0_owedBy q0_town_hold q0_town_below q0_town_hay q0_state_snow q0_state_path q0_state_debt q0_rule_code q0_rule_draft q0_rule_stack q0_rule_things q0_weather_inches i_owed i_slides i_struck i_slid i_town_houses a_town_below i_state_now ((upd a_state_snow (p1 : Int32).toNatClampNeg 0)) ((upd a_state_path ((a_town_below (p1 : Int32).toNatClampNeg) : Int32).toNatClampNeg o8)) i_rule_length i_rule_drafted ((upd ((upd ((upd ((upd a_rule_things (0 : Int32).toNatClampNeg ((a_state_snow (p1 : Int32).toNatClampNeg)))) (1 : Int32).toNatClampNeg ((a_state_path ((a_town_below (p1 : Int32).toNatClampNeg) : Int32).toNatClampNeg)))) (2 : Int32).toNatClampNeg ((mx 0 ((-o15)))))) (3 : Int32).toNatClampNeg ((a_town_hold ((p1 / 2) : Int32).toNatClampNeg)))) i_weather_length i_weather_cycle a_weather_inches a_town_hold a_rule_stack a_rule_code a_state_debt a_owedBy) := hD
        refine lv_aload_n hx hb dX9_slideOff_156 rfl (lv_at hl 3 rfl) ?_
        refine gf_RX9_30 C hP 0 rfl rfl dX9_slideOff_157 ?_
        refine gf_RX9_119 C hP 6 rfl rfl dX9_slideOff_160 ?_
        refine lv_iconst (v := 4) hx hb dX9_slideOff_163 (by decide) ?_
        refine lv_aload_n hx hb dX9_slideOff_164 rfl (lv_at hl 3 rfl) ?_
        refine gf_RX9_12 C hP 0 rfl rfl dX9_slideOff_165 ?_
        refine gf_RX9_72 C hP 3 rfl rfl dX9_slideOff_168 ?_
        obtain ⟨g20, hf⟩ := gd_some hf
        refine va_iast hx hb C.2.2.2.2.2.1 hP hD hS 7 0 rfl rfl (vin_in g20) dX9_slideOff_171 (fun H locs hP hD hS => ?_)
        have hP : va_P E.1 classes (WX9_slideOff E q0 q0_town q0_weather q0_rule q0_state q0_owedBy q0_town_hold q0_town_below q0_town_hay q0_state_snow q0_state_path q0_state_debt q0_rule_code q0_rule_draft q0_rule_stack q0_rule_things q0_weather_inches i_owed i_slides i_struck i_slid i_town_houses a_town_below i_state_now ((upd a_state_snow (p1 : Int32).toNatClampNeg 0)) ((upd a_state_path ((a_town_below (p1 : Int32).toNatClampNeg) : Int32).toNatClampNeg o8)) i_rule_length i_rule_drafted ((upd ((upd ((upd ((upd ((upd a_rule_things (0 : Int32).toNatClampNeg ((a_state_snow (p1 : Int32).toNatClampNeg)))) (1 : Int32).toNatClampNeg ((a_state_path ((a_town_below (p1 : Int32).toNatClampNeg) : Int32).toNatClampNeg)))) (2 : Int32).toNatClampNeg ((mx 0 ((-o15)))))) (3 : Int32).toNatClampNeg ((a_town_hold ((p1 / 2) : Int32).toNatClampNeg)))) (4 : Int32).toNatClampNeg i_state_now)) i_weather_length i_weather_cycle a_weather_inches a_town_hold a_rule_stack a_rule_code a_state_debt a_owedBy) H := hP
        have hD : va_D A (WX9_slideOff E q0 q0_town q0_weather q0_rule q0_state q0_owedBy q0_town_hold q0_town_below q0_town_hay q0_state_snow q0_state_path q0_state_debt q0_rule_code q0_rule_draft q0_rule_stack q0_rule_things q0_weather_inches i_owed i_slides i_struck i_slid i_town_houses a_town_below i_state_now ((upd a_state_snow (p1 : Int32).toNatClampNeg 0)) ((upd a_state_path ((a_town_below (p1 : Int32).toNatClampNeg) : Int32).toNatClampNeg o8)) i_rule_length i_rule_drafted ((upd ((upd ((upd ((upd ((upd a_rule_things (0 : Int32).toNatClampNeg ((a_state_snow (p1 : Int32).toNatClampNeg)))) (1 : Int32).toNatClampNeg ((a_state_path ((a_town_below (p1 : Int32).toNatClampNeg) : Int32).toNatClampNeg)))) (2 : Int32).toNatClampNeg ((mx 0 ((-o15)))))) (3 : Int32).toNatClampNeg ((a_town_hold ((p1 / 2) : Int32).toNatClampNeg)))) (4 : Int32).toNatClampNeg i_state_now)) i_weather_length i_weather_cycle a_weather_inches a_town_hold a_rule_stack a_rule_code a_state_debt a_owedBy) := hD
        refine lv_aload_n hx hb dX9_slideOff_172 rfl (lv_at hl 3 rfl) ?_
        refine gf_RX9_30 C hP 0 rfl rfl dX9_slideOff_173 ?_
        refine gf_RX9_119 C hP 6 rfl rfl dX9_slideOff_176 ?_
        refine lv_iconst (v := 5) hx hb dX9_slideOff_179 (by decide) ?_
        refine lv_iload_n hx hb dX9_slideOff_180 rfl (lv_at hl 6 rfl) ?_
        refine lv_if_eq (tgt := 188) hx hb dX9_slideOff_181 (by decide) (fun c21 => ?_) (fun c21 => ?_)
        · rw [if_pos c21] at hf
          refine lv_iconst (v := 0) hx hb dX9_slideOff_188 (by decide) ?_
          exact J189 ((a_town_below (p1 : Int32).toNatClampNeg)) 0 5 i_owed ((upd a_state_snow (p1 : Int32).toNatClampNeg 0)) ((upd a_state_path ((a_town_below (p1 : Int32).toNatClampNeg) : Int32).toNatClampNeg o8)) ((upd ((upd ((upd ((upd ((upd a_rule_things (0 : Int32).toNatClampNeg ((a_state_snow (p1 : Int32).toNatClampNeg)))) (1 : Int32).toNatClampNeg ((a_state_path ((a_town_below (p1 : Int32).toNatClampNeg) : Int32).toNatClampNeg)))) (2 : Int32).toNatClampNeg ((mx 0 ((-o15)))))) (3 : Int32).toNatClampNeg ((a_town_hold ((p1 / 2) : Int32).toNatClampNeg)))) (4 : Int32).toNatClampNeg i_state_now)) a_rule_stack a_state_debt a_owedBy hf _ _ _ (lv_sub hl [3, 4, 5, 2] rfl) hP hD hS
        · rw [if_neg c21] at hf
          refine lv_iconst (v := 1) hx hb dX9_slideOff_184 (by decide) ?_
          refine lv_goto (tgt := 189) hx hb dX9_slideOff_185 (by decide) ?_
          exact J189 ((a_town_below (p1 : Int32).toNatClampNeg)) 1 5 i_owed ((upd a_state_snow (p1 : Int32).toNatClampNeg 0)) ((upd a_state_path ((a_town_below (p1 : Int32).toNatClampNeg) : Int32).toNatClampNeg o8)) ((upd ((upd ((upd ((upd ((upd a_rule_things (0 : Int32).toNatClampNeg ((a_state_snow (p1 : Int32).toNatClampNeg)))) (1 : Int32).toNatClampNeg ((a_state_path ((a_town_below (p1 : Int32).toNatClampNeg) : Int32).toNatClampNeg)))) (2 : Int32).toNatClampNeg ((mx 0 ((-o15)))))) (3 : Int32).toNatClampNeg ((a_town_hold ((p1 / 2) : Int32).toNatClampNeg)))) (4 : Int32).toNatClampNeg i_state_now)) a_rule_stack a_state_debt a_owedBy hf _ _ _ (lv_sub hl [3, 4, 5, 2] rfl) hP hD hS
  · rw [if_pos c6] at hf
    have hj0 := Option.some.inj hf
    obtain ⟨ha0, hj1⟩ := Prod.mk.inj hj0
    obtain ⟨ha1, hj2⟩ := Prod.mk.inj hj1
    obtain ⟨ha2, hj3⟩ := Prod.mk.inj hj2
    obtain ⟨ha3, hj4⟩ := Prod.mk.inj hj3
    obtain ⟨ha4, hj5⟩ := Prod.mk.inj hj4
    obtain ⟨ha5, hj6⟩ := Prod.mk.inj hj5
    subst ha0
    subst ha1
    subst ha2
    subst ha3
    subst ha4
    subst ha5
    subst hj6
    exact hret _ _ _ _ dX9_slideOff_44 hP hD hS
theorem gf_RX9_63 {p : Program} {l : Launch} {e : Env} {R : Room} {s : State} {m : MethodId} {args : Array Value} {below : List Frame} {meth : Method} {c : Code} {H : Heap} {locs : List Loc} {cells slots : Nat} {Q : State → Prop} {E : ENV} {cc : ByteArray} {n : Nat} {r : Option FieldType} {pc : Nat} {ls : Array Slot} {rest : List Value} {a : Nat} {ws : va_W} {nm ds : String} {fs : List Value} {A : Nat → Prop} {v : Value} (C : Cx E A ⟨RX9, nm, ds⟩ cc n r p s m args meth c) (hP : va_P E.1 classes ws H) (q0 : Nat) (he : ws[q0]? = some (a, .inr (9, fs))) (hv : fs[8]? = some v) (hdg : decode cc pc = .ok (.getfield 63, 3))
    (kk : W p l e R s m args below meth c H locs cells slots Q (F0 m (pc + 3) ls (v :: rest))) : W p l e R s m args below meth c H locs cells slots Q (F0 m pc ls (.ref a :: rest)) :=
  va_get (C := RX9) (T := TX9) (N := 9) (Ts := wl ⟨RX9, nm, ds⟩ cc n r) C.1 C.2.1 C.2.2.2.2.1 (fun w h => List.mem_cons_of_mem _ (inT9 w h)) C.2.2.2.1 C.2.2.2.2.2.1 hP q0 he rfl 8 (by decide) (C.2.2.2.2.1 _ (List.mem_cons_of_mem _ q287)) (fun _ h9 => h9) hv hdg kk
theorem gf_RX9_57 {p : Program} {l : Launch} {e : Env} {R : Room} {s : State} {m : MethodId} {args : Array Value} {below : List Frame} {meth : Method} {c : Code} {H : Heap} {locs : List Loc} {cells slots : Nat} {Q : State → Prop} {E : ENV} {cc : ByteArray} {n : Nat} {r : Option FieldType} {pc : Nat} {ls : Array Slot} {rest : List Value} {a : Nat} {ws : va_W} {nm ds : String} {fs : List Value} {A : Nat → Prop} {v : Value} (C : Cx E A ⟨RX9, nm, ds⟩ cc n r p s m args meth c) (hP : va_P E.1 classes ws H) (q0 : Nat) (he : ws[q0]? = some (a, .inr (9, fs))) (hv : fs[6]? = some v) (hdg : decode cc pc = .ok (.getfield 57, 3))
    (kk : W p l e R s m args below meth c H locs cells slots Q (F0 m (pc + 3) ls (v :: rest))) : W p l e R s m args below meth c H locs cells slots Q (F0 m pc ls (.ref a :: rest)) :=
  va_get (C := RX9) (T := TX9) (N := 9) (Ts := wl ⟨RX9, nm, ds⟩ cc n r) C.1 C.2.1 C.2.2.2.2.1 (fun w h => List.mem_cons_of_mem _ (inT9 w h)) C.2.2.2.1 C.2.2.2.2.2.1 hP q0 he rfl 6 (by decide) (C.2.2.2.2.1 _ (List.mem_cons_of_mem _ q283)) (fun _ h9 => h9) hv hdg kk
theorem gf_RX9_60 {p : Program} {l : Launch} {e : Env} {R : Room} {s : State} {m : MethodId} {args : Array Value} {below : List Frame} {meth : Method} {c : Code} {H : Heap} {locs : List Loc} {cells slots : Nat} {Q : State → Prop} {E : ENV} {cc : ByteArray} {n : Nat} {r : Option FieldType} {pc : Nat} {ls : Array Slot} {rest : List Value} {a : Nat} {ws : va_W} {nm ds : String} {fs : List Value} {A : Nat → Prop} {v : Value} (C : Cx E A ⟨RX9, nm, ds⟩ cc n r p s m args meth c) (hP : va_P E.1 classes ws H) (q0 : Nat) (he : ws[q0]? = some (a, .inr (9, fs))) (hv : fs[7]? = some v) (hdg : decode cc pc = .ok (.getfield 60, 3))
    (kk : W p l e R s m args below meth c H locs cells slots Q (F0 m (pc + 3) ls (v :: rest))) : W p l e R s m args below meth c H locs cells slots Q (F0 m pc ls (.ref a :: rest)) :=
  va_get (C := RX9) (T := TX9) (N := 9) (Ts := wl ⟨RX9, nm, ds⟩ cc n r) C.1 C.2.1 C.2.2.2.2.1 (fun w h => List.mem_cons_of_mem _ (inT9 w h)) C.2.2.2.1 C.2.2.2.2.2.1 hP q0 he rfl 7 (by decide) (C.2.2.2.2.1 _ (List.mem_cons_of_mem _ q285)) (fun _ h9 => h9) hv hdg kk
theorem K_RX9_105 : KV RX9 105 yX9_slideOff cX9_slideOff 8 none 3 := ⟨Tg_mem 802 (by decide +kernel) (by decide +kernel), Tg_mem 96 (by decide +kernel) (by decide +kernel), Tg_mem 799 (by decide +kernel) (by decide +kernel), Tg_mem 800 (by decide +kernel) (by decide +kernel), Tg_mem 801 (by decide +kernel) (by decide +kernel), by decide +kernel⟩
theorem pf_RX9_72 {p : Program} {l : Launch} {e : Env} {R : Room} {s : State} {m : MethodId} {args : Array Value} {below : List Frame} {meth : Method} {c : Code} {H : Heap} {locs : List Loc} {cells slots : Nat} {Q : State → Prop} {E : ENV} {cc : ByteArray} {n : Nat} {r : Option FieldType} {pc : Nat} {ls : Array Slot} {rest : List Value} {a : Nat} {ws : va_W} {nm ds : String} {fs : List Value} {A : Nat → Prop} {H0 : Heap} {x : Int32} (C : Cx E A ⟨RX9, nm, ds⟩ cc n r p s m args meth c) (hP : va_P E.1 classes ws H) (hD : va_D A ws) (hS : va_S A H0 H locs) (q0 : Nat) (he : ws[q0]? = some (a, .inr (5, fs))) (hl : 3 < fs.length) (hdg : decode cc pc = .ok (.putfield 72, 3))
    (kk : ∀ (H1 : Heap) (locs1 : List Loc), va_P E.1 classes (ws.set q0 (a, .inr (5, fs.set 3 (.int x)))) H1 → va_D A (ws.set q0 (a, .inr (5, fs.set 3 (.int x)))) → va_S A H0 H1 locs1 → W p l e R s m args below meth c H1 locs1 cells slots Q (F0 m (pc + 3) ls rest)) : W p l e R s m args below meth c H locs cells slots Q (F0 m pc ls (.int x :: .ref a :: rest)) :=
  va_putN (C := RX5) (T := TX5) (N := 4) (ty := .int) (Ts := wl ⟨RX9, nm, ds⟩ cc n r) C.1 C.2.1 C.2.2.2.2.1 (fun w h => List.mem_cons_of_mem _ (inT5 w h)) tyX5 tyX5_ok nmX5 C.2.2.2.1 C.2.2.2.2.2.1 hP hD hS q0 he rfl 3 (by decide) (va_Nw.use rfl (C.2.2.2.2.2.2.2.2.1 _ q260)) (fun _ h9 => h9) rfl (by decide +kernel) rfl rfl hl hdg kk
theorem K_RX9_87 : KV RX9 87 yX9_fallOnTown cX9_fallOnTown 3 none 1 := ⟨Tg_mem 793 (by decide +kernel) (by decide +kernel), Tg_mem 96 (by decide +kernel) (by decide +kernel), Tg_mem 790 (by decide +kernel) (by decide +kernel), Tg_mem 792 (by decide +kernel) (by decide +kernel), Tg_mem 14 (by decide +kernel) (by decide +kernel), by decide +kernel⟩
theorem dX9_goDay_0 : decode cX9_goDay 0 = .ok (.aload_n 0, 1) := by decide +kernel
theorem dX9_goDay_1 : decode cX9_goDay 1 = .ok (.getfield 26, 3) := by decide +kernel
theorem dX9_goDay_4 : decode cX9_goDay 4 = .ok (.aload_n 0, 1) := by decide +kernel
theorem dX9_goDay_5 : decode cX9_goDay 5 = .ok (.getfield 12, 3) := by decide +kernel
theorem dX9_goDay_8 : decode cX9_goDay 8 = .ok (.getfield 72, 3) := by decide +kernel
theorem dX9_goDay_11 : decode cX9_goDay 11 = .ok (.invokevirtual 75, 3) := by decide +kernel
theorem dX9_goDay_14 : decode cX9_goDay 14 = .ok (.istore_n 1, 1) := by decide +kernel
theorem dX9_goDay_15 : decode cX9_goDay 15 = .ok (.iconst 0, 1) := by decide +kernel
theorem dX9_goDay_16 : decode cX9_goDay 16 = .ok (.iload_n 1, 1) := by decide +kernel
theorem dX9_goDay_17 : decode cX9_goDay 17 = .ok (.ineg, 1) := by decide +kernel
theorem dX9_goDay_18 : decode cX9_goDay 18 = .ok (.invokestatic 81, 3) := by decide +kernel
theorem dX9_goDay_21 : decode cX9_goDay 21 = .ok (.istore_n 2, 1) := by decide +kernel
theorem dX9_goDay_22 : decode cX9_goDay 22 = .ok (.aload_n 0, 1) := by decide +kernel
theorem dX9_goDay_23 : decode cX9_goDay 23 = .ok (.iconst 0, 1) := by decide +kernel
theorem dX9_goDay_24 : decode cX9_goDay 24 = .ok (.putfield 63, 3) := by decide +kernel
theorem dX9_goDay_27 : decode cX9_goDay 27 = .ok (.iload_n 1, 1) := by decide +kernel
theorem dX9_goDay_28 : decode cX9_goDay 28 = .ok (.ifCond .eq 8, 3) := by decide +kernel
theorem dX9_goDay_31 : decode cX9_goDay 31 = .ok (.aload_n 0, 1) := by decide +kernel
theorem dX9_goDay_32 : decode cX9_goDay 32 = .ok (.iload_n 1, 1) := by decide +kernel
theorem dX9_goDay_33 : decode cX9_goDay 33 = .ok (.invokevirtual 87, 3) := by decide +kernel
theorem dX9_goDay_36 : decode cX9_goDay 36 = .ok (.iconst 0, 1) := by decide +kernel
theorem dX9_goDay_37 : decode cX9_goDay 37 = .ok (.istore_n 3, 1) := by decide +kernel
theorem dX9_goDay_38 : decode cX9_goDay 38 = .ok (.iload_n 3, 1) := by decide +kernel
theorem dX9_goDay_39 : decode cX9_goDay 39 = .ok (.iconst 2, 1) := by decide +kernel
theorem dX9_goDay_40 : decode cX9_goDay 40 = .ok (.aload_n 0, 1) := by decide +kernel
theorem dX9_goDay_41 : decode cX9_goDay 41 = .ok (.getfield 22, 3) := by decide +kernel
theorem dX9_goDay_44 : decode cX9_goDay 44 = .ok (.getfield 91, 3) := by decide +kernel
theorem dX9_goDay_47 : decode cX9_goDay 47 = .ok (.imul, 1) := by decide +kernel
theorem dX9_goDay_48 : decode cX9_goDay 48 = .ok (.if_icmp .ge 110, 3) := by decide +kernel
theorem dX9_goDay_51 : decode cX9_goDay 51 = .ok (.iload_n 3, 1) := by decide +kernel
theorem dX9_goDay_52 : decode cX9_goDay 52 = .ok (.iconst 2, 1) := by decide +kernel
theorem dX9_goDay_53 : decode cX9_goDay 53 = .ok (.idiv, 1) := by decide +kernel
theorem dX9_goDay_54 : decode cX9_goDay 54 = .ok (.istore 4, 2) := by decide +kernel
theorem dX9_goDay_56 : decode cX9_goDay 56 = .ok (.aload_n 0, 1) := by decide +kernel
theorem dX9_goDay_57 : decode cX9_goDay 57 = .ok (.getfield 12, 3) := by decide +kernel
theorem dX9_goDay_60 : decode cX9_goDay 60 = .ok (.getfield 96, 3) := by decide +kernel
theorem dX9_goDay_63 : decode cX9_goDay 63 = .ok (.iload_n 3, 1) := by decide +kernel
theorem dX9_goDay_64 : decode cX9_goDay 64 = .ok (.iaload, 1) := by decide +kernel
theorem dX9_goDay_65 : decode cX9_goDay 65 = .ok (.iconst 0, 1) := by decide +kernel
theorem dX9_goDay_66 : decode cX9_goDay 66 = .ok (.aload_n 0, 1) := by decide +kernel
theorem dX9_goDay_67 : decode cX9_goDay 67 = .ok (.getfield 22, 3) := by decide +kernel
theorem dX9_goDay_70 : decode cX9_goDay 70 = .ok (.getfield 99, 3) := by decide +kernel
theorem dX9_goDay_73 : decode cX9_goDay 73 = .ok (.iload 4, 2) := by decide +kernel
theorem dX9_goDay_75 : decode cX9_goDay 75 = .ok (.iaload, 1) := by decide +kernel
theorem dX9_goDay_76 : decode cX9_goDay 76 = .ok (.iload_n 2, 1) := by decide +kernel
theorem dX9_goDay_77 : decode cX9_goDay 77 = .ok (.isub, 1) := by decide +kernel
theorem dX9_goDay_78 : decode cX9_goDay 78 = .ok (.invokestatic 81, 3) := by decide +kernel
theorem dX9_goDay_81 : decode cX9_goDay 81 = .ok (.if_icmp .le 71, 3) := by decide +kernel
theorem dX9_goDay_84 : decode cX9_goDay 84 = .ok (.aload_n 0, 1) := by decide +kernel
theorem dX9_goDay_85 : decode cX9_goDay 85 = .ok (.dup, 1) := by decide +kernel
theorem dX9_goDay_86 : decode cX9_goDay 86 = .ok (.getfield 63, 3) := by decide +kernel
theorem dX9_goDay_89 : decode cX9_goDay 89 = .ok (.iconst 1, 1) := by decide +kernel
theorem dX9_goDay_90 : decode cX9_goDay 90 = .ok (.iload_n 3, 1) := by decide +kernel
theorem dX9_goDay_91 : decode cX9_goDay 91 = .ok (.ishl, 1) := by decide +kernel
theorem dX9_goDay_92 : decode cX9_goDay 92 = .ok (.ior, 1) := by decide +kernel
theorem dX9_goDay_93 : decode cX9_goDay 93 = .ok (.putfield 63, 3) := by decide +kernel
theorem dX9_goDay_96 : decode cX9_goDay 96 = .ok (.aload_n 0, 1) := by decide +kernel
theorem dX9_goDay_97 : decode cX9_goDay 97 = .ok (.dup, 1) := by decide +kernel
theorem dX9_goDay_98 : decode cX9_goDay 98 = .ok (.getfield 57, 3) := by decide +kernel
theorem dX9_goDay_101 : decode cX9_goDay 101 = .ok (.iconst 1, 1) := by decide +kernel
theorem dX9_goDay_102 : decode cX9_goDay 102 = .ok (.iadd, 1) := by decide +kernel
theorem dX9_goDay_103 : decode cX9_goDay 103 = .ok (.putfield 57, 3) := by decide +kernel
theorem dX9_goDay_106 : decode cX9_goDay 106 = .ok (.aload_n 0, 1) := by decide +kernel
theorem dX9_goDay_107 : decode cX9_goDay 107 = .ok (.dup, 1) := by decide +kernel
theorem dX9_goDay_108 : decode cX9_goDay 108 = .ok (.getfield 60, 3) := by decide +kernel
theorem dX9_goDay_111 : decode cX9_goDay 111 = .ok (.aload_n 0, 1) := by decide +kernel
theorem dX9_goDay_112 : decode cX9_goDay 112 = .ok (.getfield 22, 3) := by decide +kernel
theorem dX9_goDay_115 : decode cX9_goDay 115 = .ok (.getfield 102, 3) := by decide +kernel
theorem dX9_goDay_118 : decode cX9_goDay 118 = .ok (.iload_n 3, 1) := by decide +kernel
theorem dX9_goDay_119 : decode cX9_goDay 119 = .ok (.iaload, 1) := by decide +kernel
theorem dX9_goDay_120 : decode cX9_goDay 120 = .ok (.iload 4, 2) := by decide +kernel
theorem dX9_goDay_122 : decode cX9_goDay 122 = .ok (.if_icmp .ne 7, 3) := by decide +kernel
theorem dX9_goDay_125 : decode cX9_goDay 125 = .ok (.iconst 0, 1) := by decide +kernel
theorem dX9_goDay_126 : decode cX9_goDay 126 = .ok (.goto 14, 3) := by decide +kernel
theorem dX9_goDay_129 : decode cX9_goDay 129 = .ok (.iconst 1, 1) := by decide +kernel
theorem dX9_goDay_130 : decode cX9_goDay 130 = .ok (.aload_n 0, 1) := by decide +kernel
theorem dX9_goDay_131 : decode cX9_goDay 131 = .ok (.getfield 22, 3) := by decide +kernel
theorem dX9_goDay_134 : decode cX9_goDay 134 = .ok (.getfield 102, 3) := by decide +kernel
theorem dX9_goDay_137 : decode cX9_goDay 137 = .ok (.iload_n 3, 1) := by decide +kernel
theorem dX9_goDay_138 : decode cX9_goDay 138 = .ok (.iaload, 1) := by decide +kernel
theorem dX9_goDay_139 : decode cX9_goDay 139 = .ok (.ishl, 1) := by decide +kernel
theorem dX9_goDay_140 : decode cX9_goDay 140 = .ok (.ior, 1) := by decide +kernel
theorem dX9_goDay_141 : decode cX9_goDay 141 = .ok (.putfield 60, 3) := by decide +kernel
theorem dX9_goDay_144 : decode cX9_goDay 144 = .ok (.aload_n 0, 1) := by decide +kernel
theorem dX9_goDay_145 : decode cX9_goDay 145 = .ok (.iload_n 3, 1) := by decide +kernel
theorem dX9_goDay_146 : decode cX9_goDay 146 = .ok (.iload 4, 2) := by decide +kernel
theorem dX9_goDay_148 : decode cX9_goDay 148 = .ok (.iconst 0, 1) := by decide +kernel
theorem dX9_goDay_149 : decode cX9_goDay 149 = .ok (.invokevirtual 105, 3) := by decide +kernel
theorem dX9_goDay_152 : decode cX9_goDay 152 = .ok (.iinc 3 1, 3) := by decide +kernel
theorem dX9_goDay_155 : decode cX9_goDay 155 = .ok (.goto (-117), 3) := by decide +kernel
theorem dX9_goDay_158 : decode cX9_goDay 158 = .ok (.aload_n 0, 1) := by decide +kernel
theorem dX9_goDay_159 : decode cX9_goDay 159 = .ok (.getfield 12, 3) := by decide +kernel
theorem dX9_goDay_162 : decode cX9_goDay 162 = .ok (.dup, 1) := by decide +kernel
theorem dX9_goDay_163 : decode cX9_goDay 163 = .ok (.getfield 72, 3) := by decide +kernel
theorem dX9_goDay_166 : decode cX9_goDay 166 = .ok (.iconst 1, 1) := by decide +kernel
theorem dX9_goDay_167 : decode cX9_goDay 167 = .ok (.iadd, 1) := by decide +kernel
theorem dX9_goDay_168 : decode cX9_goDay 168 = .ok (.putfield 72, 3) := by decide +kernel
theorem dX9_goDay_171 : decode cX9_goDay 171 = .ok (.return_, 1) := by decide +kernel
def WX9_goDay (E : ENV) (q0 : Nat) (q0_town : Nat) (q0_weather : Nat) (q0_rule : Nat) (q0_state : Nat) (q0_owedBy : Nat) (q0_state_snow : Nat) (q0_state_path : Nat) (q0_state_debt : Nat) (q0_weather_inches : Nat) (q0_town_hold : Nat) (q0_town_below : Nat) (q0_town_hay : Nat) (q0_rule_code : Nat) (q0_rule_draft : Nat) (q0_rule_stack : Nat) (q0_rule_things : Nat) (i_owed : Int32) (i_slides : Int32) (i_struck : Int32) (i_slid : Int32) (i_state_now : Int32) (i_weather_length : Int32) (i_weather_cycle : Int32) (a_weather_inches : Nat → Int32) (i_town_houses : Int32) (a_state_snow : Nat → Int32) (a_state_path : Nat → Int32) (a_town_hold : Nat → Int32) (a_town_below : Nat → Int32) (i_rule_length : Int32) (i_rule_drafted : Int32) (a_rule_things : Nat → Int32) (a_rule_stack : Nat → Int32) (a_rule_code : Nat → Int32) (a_state_debt : Nat → Int32) (a_owedBy : Nat → Int32) : va_W := [(q0, .inr (9, [.ref q0_town, .ref q0_weather, .ref q0_rule, .ref q0_state, .ref q0_owedBy, .int i_owed, .int i_slides, .int i_struck, .int i_slid])), (q0_state, .inr (5, [.ref q0_state_snow, .ref q0_state_path, .ref q0_state_debt, .int i_state_now])), (q0_weather, .inr (10, [.ref q0_weather_inches, .int i_weather_length, .int i_weather_cycle])), (q0_weather_inches, .inl (E.2.1, 40, .inl a_weather_inches)), (q0_town, .inr (7, [.ref q0_town_hold, .ref q0_town_below, .ref q0_town_hay, .int i_town_houses])), (q0_state_snow, .inl (E.2.1, 14, .inl a_state_snow)), (q0_state_path, .inl (E.2.1, 7, .inl a_state_path)), (q0_town_hold, .inl (E.2.1, 7, .inl a_town_hold)), (q0_town_below, .inl (E.2.1, 14, .inl a_town_below)), (q0_rule, .inr (4, [.ref q0_rule_code, .ref q0_rule_draft, .ref q0_rule_stack, .ref q0_rule_things, .int i_rule_length, .int i_rule_drafted])), (q0_rule_things, .inl (E.2.1, 8, .inl a_rule_things)), (q0_rule_stack, .inl (E.2.1, 40, .inl a_rule_stack)), (q0_rule_code, .inl (E.2.1, 40, .inl a_rule_code)), (q0_state_debt, .inl (E.2.1, 49, .inl a_state_debt)), (q0_owedBy, .inl (E.2.1, 7, .inl a_owedBy))]
set_option maxHeartbeats 4000000 in
set_option maxRecDepth 20000 in
theorem kX9_goDay (l : Launch) (E : ENV) (q0 : Nat) (q0_town : Nat) (q0_weather : Nat) (q0_rule : Nat) (q0_state : Nat) (q0_owedBy : Nat) (q0_state_snow : Nat) (q0_state_path : Nat) (q0_state_debt : Nat) (q0_weather_inches : Nat) (q0_town_hold : Nat) (q0_town_below : Nat) (q0_town_hay : Nat) (q0_rule_code : Nat) (q0_rule_draft : Nat) (q0_rule_stack : Nat) (q0_rule_things : Nat) (i_owed : Int32) (i_slides : Int32) (i_struck : Int32) (i_slid : Int32) (i_state_now : Int32) (i_weather_length : Int32) (i_weather_cycle : Int32) (a_weather_inches : Nat → Int32) (i_town_houses : Int32) (a_state_snow : Nat → Int32) (a_state_path : Nat → Int32) (a_town_hold : Nat → Int32) (a_town_below : Nat → Int32) (i_rule_length : Int32) (i_rule_drafted : Int32) (a_rule_things : Nat → Int32) (a_rule_stack : Nat → Int32) (a_rule_code : Nat → Int32) (a_state_debt : Nat → Int32) (a_owedBy : Nat → Int32) (i_owed9 : Int32) (i_slides9 : Int32) (i_struck9 : Int32) (i_slid9 : Int32) (i_state_now9 : Int32) (a_state_snow9 : Nat → Int32) (a_state_path9 : Nat → Int32) (a_rule_things9 : Nat → Int32) (a_rule_stack9 : Nat → Int32) (a_state_debt9 : Nat → Int32) (a_owedBy9 : Nat → Int32) (hf : fX9_goDay i_owed i_slides i_struck i_slid i_state_now i_weather_cycle a_weather_inches i_town_houses a_state_snow a_state_path a_town_hold a_town_below i_rule_length a_rule_things a_rule_stack a_rule_code a_state_debt a_owedBy = some (i_owed9, i_slides9, i_struck9, i_slid9, i_state_now9, a_state_snow9, a_state_path9, a_rule_things9, a_rule_stack9, a_state_debt9, a_owedBy9)) : CV l E yX9_goDay cX9_goDay 5 3 [.ref q0] (WX9_goDay E q0 q0_town q0_weather q0_rule q0_state q0_owedBy q0_state_snow q0_state_path q0_state_debt q0_weather_inches q0_town_hold q0_town_below q0_town_hay q0_rule_code q0_rule_draft q0_rule_stack q0_rule_things i_owed i_slides i_struck i_slid i_state_now i_weather_length i_weather_cycle a_weather_inches i_town_houses a_state_snow a_state_path a_town_hold a_town_below i_rule_length i_rule_drafted a_rule_things a_rule_stack a_rule_code a_state_debt a_owedBy) (WX9_goDay E q0 q0_town q0_weather q0_rule q0_state q0_owedBy q0_state_snow q0_state_path q0_state_debt q0_weather_inches q0_town_hold q0_town_below q0_town_hay q0_rule_code q0_rule_draft q0_rule_stack q0_rule_things i_owed9 i_slides9 i_struck9 i_slid9 i_state_now9 i_weather_length i_weather_cycle a_weather_inches i_town_houses a_state_snow9 a_state_path9 a_town_hold a_town_below i_rule_length i_rule_drafted a_rule_things9 a_rule_stack9 a_rule_code a_state_debt9 a_owedBy9) := by
  refine begV (by decide +kernel) (Nat.le_of_ble_eq_true rfl) ?_
  intro p e s m args below meth c A Q C hA hret
  have hx := C.1
  have hb := C.2.1
  have L38 : ∀ (v2 : Int32) (i_state_now : Int32), ∀ (n : Nat) (v3 : Int32) (i_owed : Int32) (i_slides : Int32) (i_struck : Int32) (i_slid : Int32) (a_state_snow : Nat → Int32) (a_state_path : Nat → Int32) (a_rule_things : Nat → Int32) (a_rule_stack : Nat → Int32) (a_state_debt : Nat → Int32) (a_owedBy : Nat → Int32) (o : Int32 × Int32 × Int32 × Int32 × (Nat → Int32) × (Nat → Int32) × (Nat → Int32) × (Nat → Int32) × (Nat → Int32) × (Nat → Int32)), fX9_goDay_L38 i_weather_cycle a_weather_inches i_town_houses a_town_hold a_town_below i_rule_length a_rule_code v2 i_state_now n v3 i_owed i_slides i_struck i_slid a_state_snow a_state_path a_rule_things a_rule_stack a_state_debt a_owedBy = some o → (GO p l e 3 s m args below meth c Q E A 5 158 [] [(0, .ref q0)] (WX9_goDay E q0 q0_town q0_weather q0_rule q0_state q0_owedBy q0_state_snow q0_state_path q0_state_debt q0_weather_inches q0_town_hold q0_town_below q0_town_hay q0_rule_code q0_rule_draft q0_rule_stack q0_rule_things o.1 o.2.1 o.2.2.1 o.2.2.2.1 i_state_now i_weather_length i_weather_cycle a_weather_inches i_town_houses o.2.2.2.2.1 o.2.2.2.2.2.1 a_town_hold a_town_below i_rule_length i_rule_drafted o.2.2.2.2.2.2.1 o.2.2.2.2.2.2.2.1 a_rule_code o.2.2.2.2.2.2.2.2.1 o.2.2.2.2.2.2.2.2.2)) → GO p l e 3 s m args below meth c Q E A 5 38 [] [(0, .ref q0), (2, .int v2), (3, .int v3)] (WX9_goDay E q0 q0_town q0_weather q0_rule q0_state q0_owedBy q0_state_snow q0_state_path q0_state_debt q0_weather_inches q0_town_hold q0_town_below q0_town_hay q0_rule_code q0_rule_draft q0_rule_stack q0_rule_things i_owed i_slides i_struck i_slid i_state_now i_weather_length i_weather_cycle a_weather_inches i_town_houses a_state_snow a_state_path a_town_hold a_town_below i_rule_length i_rule_drafted a_rule_things a_rule_stack a_rule_code a_state_debt a_owedBy) := by
    intro v2 i_state_now
    intro n
    induction n with
    | zero =>
      intro v3 i_owed i_slides i_struck i_slid a_state_snow a_state_path a_rule_things a_rule_stack a_state_debt a_owedBy o hf
      have hf : none = some o := hf
      cases hf
    | succ n ih =>
      intro v3 i_owed i_slides i_struck i_slid a_state_snow a_state_path a_rule_things a_rule_stack a_state_debt a_owedBy o hf hE
      have J140 : ∀ (v3 : Int32) (v4 : Int32) (s0 : Int32) (s1 : Int32) (i_owed : Int32) (i_slides : Int32) (i_struck : Int32) (i_slid : Int32) (a_state_snow : Nat → Int32) (a_state_path : Nat → Int32) (a_rule_things : Nat → Int32) (a_rule_stack : Nat → Int32) (a_state_debt : Nat → Int32) (a_owedBy : Nat → Int32), fX9_goDay_J140 (fX9_goDay_L38 i_weather_cycle a_weather_inches i_town_houses a_town_hold a_town_below i_rule_length a_rule_code v2 i_state_now n) i_weather_cycle a_weather_inches i_town_houses a_town_hold a_town_below i_rule_length a_rule_code i_state_now v3 v4 s0 s1 i_owed i_slides i_slid a_state_snow a_state_path a_rule_things a_rule_stack a_state_debt a_owedBy = some o → GO p l e 3 s m args below meth c Q E A 5 140 [.int s0, .int s1, .ref q0] [(0, .ref q0), (2, .int v2), (3, .int v3), (4, .int v4)] (WX9_goDay E q0 q0_town q0_weather q0_rule q0_state q0_owedBy q0_state_snow q0_state_path q0_state_debt q0_weather_inches q0_town_hold q0_town_below q0_town_hay q0_rule_code q0_rule_draft q0_rule_stack q0_rule_things i_owed i_slides i_struck i_slid i_state_now i_weather_length i_weather_cycle a_weather_inches i_town_houses a_state_snow a_state_path a_town_hold a_town_below i_rule_length i_rule_drafted a_rule_things a_rule_stack a_rule_code a_state_debt a_owedBy) := by
        intro v3 v4 s0 s1 i_owed i_slides i_struck i_slid a_state_snow a_state_path a_rule_things a_rule_stack a_state_debt a_owedBy hf H locs ls hl hP hD hS
        unfold fX9_goDay_J140 at hf
        refine lv_ior hx hb dX9_goDay_140 ?_
        refine pf_RX9_60 C hP hD hS 0 rfl (Nat.le_of_ble_eq_true rfl) dX9_goDay_141 (fun H locs hP hD hS => ?_)
        have hP : va_P E.1 classes (WX9_goDay E q0 q0_town q0_weather q0_rule q0_state q0_owedBy q0_state_snow q0_state_path q0_state_debt q0_weather_inches q0_town_hold q0_town_below q0_town_hay q0_rule_code q0_rule_draft q0_rule_stack q0_rule_things i_owed i_slides ((s1 ||| s0)) i_slid i_state_now i_weather_length i_weather_cycle a_weather_inches i_town_houses a_state_snow a_state_path a_town_hold a_town_below i_rule_length i_rule_drafted a_rule_things a_rule_stack a_rule_code a_state_debt a_owedBy) H := hP
        have hD : va_D A (WX9_goDay E q0 q0_town q0_weather q0_rule q0_state q0_owedBy q0_state_snow q0_state_path q0_state_debt q0_weather_inches q0_town_hold q0_town_below q0_town_hay q0_rule_code q0_rule_draft q0_rule_stack q0_rule_things i_owed i_slides ((s1 ||| s0)) i_slid i_state_now i_weather_length i_weather_cycle a_weather_inches i_town_houses a_state_snow a_state_path a_town_hold a_town_below i_rule_length i_rule_drafted a_rule_things a_rule_stack a_rule_code a_state_debt a_owedBy) := hD
        refine lv_aload_n hx hb dX9_goDay_144 rfl (lv_at hl 0 rfl) ?_
        refine lv_iload_n hx hb dX9_goDay_145 rfl (lv_at hl 2 rfl) ?_
        refine lv_iload hx hb dX9_goDay_146 (lv_at hl 3 rfl) ?_
        refine lv_iconst (v := 0) hx hb dX9_goDay_148 (by decide) ?_
        obtain ⟨o11, hg12, hf⟩ := bd_some hf
        refine k_VV (As := [.int v3, .int v4, .int 0]) C K_RX9_105 (Nat.le_of_ble_eq_true rfl) (Nat.le_of_ble_eq_true rfl) (kX9_slideOff l E q0 q0_town q0_weather q0_rule q0_state q0_owedBy q0_town_hold q0_town_below q0_town_hay q0_state_snow q0_state_path q0_state_debt q0_rule_code q0_rule_draft q0_rule_stack q0_rule_things q0_weather_inches i_owed i_slides ((s1 ||| s0)) i_slid i_town_houses a_town_below i_state_now a_state_snow a_state_path i_rule_length i_rule_drafted a_rule_things i_weather_length i_weather_cycle a_weather_inches a_town_hold a_rule_stack a_rule_code a_state_debt a_owedBy v3 v4 0 o11.1 o11.2.1 o11.2.2.1 o11.2.2.2.1 o11.2.2.2.2.1 o11.2.2.2.2.2.1 o11.2.2.2.2.2.2 hg12) [0, 4, 8, 1, 5, 6, 9, 10, 2, 3, 7, 11, 12, 13, 14] rfl rfl rfl (ci := 9) rfl rfl (q0 := 0) rfl hP hD hS hA hl.1 (Nat.le_of_ble_eq_true rfl) rfl dX9_goDay_149 (fun H locs hP hD hS => ?_)
        have hP : va_P E.1 classes (WX9_goDay E q0 q0_town q0_weather q0_rule q0_state q0_owedBy q0_state_snow q0_state_path q0_state_debt q0_weather_inches q0_town_hold q0_town_below q0_town_hay q0_rule_code q0_rule_draft q0_rule_stack q0_rule_things o11.1 i_slides ((s1 ||| s0)) i_slid i_state_now i_weather_length i_weather_cycle a_weather_inches i_town_houses o11.2.1 o11.2.2.1 a_town_hold a_town_below i_rule_length i_rule_drafted o11.2.2.2.1 o11.2.2.2.2.1 a_rule_code o11.2.2.2.2.2.1 o11.2.2.2.2.2.2) H := hP
        have hD : va_D A (WX9_goDay E q0 q0_town q0_weather q0_rule q0_state q0_owedBy q0_state_snow q0_state_path q0_state_debt q0_weather_inches q0_town_hold q0_town_below q0_town_hay q0_rule_code q0_rule_draft q0_rule_stack q0_rule_things o11.1 i_slides ((s1 ||| s0)) i_slid i_state_now i_weather_length i_weather_cycle a_weather_inches i_town_houses o11.2.1 o11.2.2.1 a_town_hold a_town_below i_rule_length i_rule_drafted o11.2.2.2.1 o11.2.2.2.2.1 a_rule_code o11.2.2.2.2.2.1 o11.2.2.2.2.2.2) := hD
        refine lv_iinc (v := (v3 + 1)) (lv' := [(3, .int ((v3 + 1))), (0, .ref q0), (2, .int v2), (4, .int v4)]) hx hb dX9_goDay_152 hl (k := 2) rfl rfl (by decide) rfl (fun ls hl => ?_)
        refine lv_goto (tgt := 38) hx hb dX9_goDay_155 (by decide) ?_
        exact ih ((v3 + 1)) o11.1 i_slides ((s1 ||| s0)) i_slid o11.2.1 o11.2.2.1 o11.2.2.2.1 o11.2.2.2.2.1 o11.2.2.2.2.2.1 o11.2.2.2.2.2.2 _ hf hE _ _ _ (lv_sub hl [1, 2, 0] rfl) hP hD hS
      intro H locs ls hl hP hD hS
      rw [fX9_goDay_L38] at hf
      refine lv_iload_n hx hb dX9_goDay_38 rfl (lv_at hl 2 rfl) ?_
      refine lv_iconst (v := 2) hx hb dX9_goDay_39 (by decide) ?_
      refine lv_aload_n hx hb dX9_goDay_40 rfl (lv_at hl 0 rfl) ?_
      refine gf_RX9_22 C hP 0 rfl rfl dX9_goDay_41 ?_
      refine gf_RX9_91 C hP 4 rfl rfl dX9_goDay_44 ?_
      refine lv_imul hx hb dX9_goDay_47 ?_
      refine lv_icmp_ge (tgt := 158) hx hb dX9_goDay_48 (by decide) (fun c4 => ?_) (fun c4 => ?_)
      · rw [if_pos c4] at hf
        have hf := Option.some.inj hf
        subst hf
        exact hE _ _ _ (lv_sub hl [0] rfl) hP hD hS
      · rw [if_neg c4] at hf
        refine lv_iload_n hx hb dX9_goDay_51 rfl (lv_at hl 2 rfl) ?_
        refine lv_iconst (v := 2) hx hb dX9_goDay_52 (by decide) ?_
        refine lv_idiv hx hb dX9_goDay_53 (by decide) ?_
        refine lv_istore (lv' := [(4, .int ((v3 / 2))), (0, .ref q0), (2, .int v2), (3, .int v3)]) hx hb dX9_goDay_54 hl (by decide) rfl (fun ls hl => ?_)
        refine lv_aload_n hx hb dX9_goDay_56 rfl (lv_at hl 1 rfl) ?_
        refine gf_RX9_12 C hP 0 rfl rfl dX9_goDay_57 ?_
        refine gf_RX9_96 C hP 1 rfl rfl dX9_goDay_60 ?_
        refine lv_iload_n hx hb dX9_goDay_63 rfl (lv_at hl 3 rfl) ?_
        obtain ⟨g5, hf⟩ := gd_some hf
        refine va_iald hx hb C.2.2.2.2.2.1 hP 5 0 rfl rfl (vin_in g5) dX9_goDay_64 ?_
        refine lv_iconst (v := 0) hx hb dX9_goDay_65 (by decide) ?_
        refine lv_aload_n hx hb dX9_goDay_66 rfl (lv_at hl 1 rfl) ?_
        refine gf_RX9_22 C hP 0 rfl rfl dX9_goDay_67 ?_
        refine gf_RX9_99 C hP 4 rfl rfl dX9_goDay_70 ?_
        refine lv_iload hx hb dX9_goDay_73 (lv_at hl 0 rfl) ?_
        obtain ⟨g6, hf⟩ := gd_some hf
        refine va_iald hx hb C.2.2.2.2.2.1 hP 7 0 rfl rfl (vin_in g6) dX9_goDay_75 ?_
        refine lv_iload_n hx hb dX9_goDay_76 rfl (lv_at hl 2 rfl) ?_
        refine lv_isub hx hb dX9_goDay_77 ?_
        refine r_max C q789 (Nat.le_of_ble_eq_true rfl) hl.1 (Nat.le_of_ble_eq_true rfl) dX9_goDay_78 ?_
        refine lv_icmp_le (tgt := 152) hx hb dX9_goDay_81 (by decide) (fun c7 => ?_) (fun c7 => ?_)
        · rw [if_pos c7] at hf
          refine lv_iinc (v := (v3 + 1)) (lv' := [(3, .int ((v3 + 1))), (4, .int ((v3 / 2))), (0, .ref q0), (2, .int v2)]) hx hb dX9_goDay_152 hl (k := 3) rfl rfl (by decide) rfl (fun ls hl => ?_)
          refine lv_goto (tgt := 38) hx hb dX9_goDay_155 (by decide) ?_
          exact ih ((v3 + 1)) i_owed i_slides i_struck i_slid a_state_snow a_state_path a_rule_things a_rule_stack a_state_debt a_owedBy _ hf hE _ _ _ (lv_sub hl [2, 3, 0] rfl) hP hD hS
        · rw [if_neg c7] at hf
          refine lv_aload_n hx hb dX9_goDay_84 rfl (lv_at hl 1 rfl) ?_
          refine lv_dup hx hb dX9_goDay_85 rfl ?_
          refine gf_RX9_63 C hP 0 rfl rfl dX9_goDay_86 ?_
          refine lv_iconst (v := 1) hx hb dX9_goDay_89 (by decide) ?_
          refine lv_iload_n hx hb dX9_goDay_90 rfl (lv_at hl 3 rfl) ?_
          refine lv_ishl hx hb dX9_goDay_91 ?_
          refine lv_ior hx hb dX9_goDay_92 ?_
          refine pf_RX9_63 C hP hD hS 0 rfl (Nat.le_of_ble_eq_true rfl) dX9_goDay_93 (fun H locs hP hD hS => ?_)
          have hP : va_P E.1 classes (WX9_goDay E q0 q0_town q0_weather q0_rule q0_state q0_owedBy q0_state_snow q0_state_path q0_state_debt q0_weather_inches q0_town_hold q0_town_below q0_town_hay q0_rule_code q0_rule_draft q0_rule_stack q0_rule_things i_owed i_slides i_struck ((i_slid ||| ((1 <<< (v3 &&& 31))))) i_state_now i_weather_length i_weather_cycle a_weather_inches i_town_houses a_state_snow a_state_path a_town_hold a_town_below i_rule_length i_rule_drafted a_rule_things a_rule_stack a_rule_code a_state_debt a_owedBy) H := hP
          have hD : va_D A (WX9_goDay E q0 q0_town q0_weather q0_rule q0_state q0_owedBy q0_state_snow q0_state_path q0_state_debt q0_weather_inches q0_town_hold q0_town_below q0_town_hay q0_rule_code q0_rule_draft q0_rule_stack q0_rule_things i_owed i_slides i_struck ((i_slid ||| ((1 <<< (v3 &&& 31))))) i_state_now i_weather_length i_weather_cycle a_weather_inches i_town_houses a_state_snow a_state_path a_town_hold a_town_below i_rule_length i_rule_drafted a_rule_things a_rule_stack a_rule_code a_state_debt a_owedBy) := hD
          refine lv_aload_n hx hb dX9_goDay_96 rfl (lv_at hl 1 rfl) ?_
          refine lv_dup hx hb dX9_goDay_97 rfl ?_
          refine gf_RX9_57 C hP 0 rfl rfl dX9_goDay_98 ?_
          refine lv_iconst (v := 1) hx hb dX9_goDay_101 (by decide) ?_
          refine lv_iadd hx hb dX9_goDay_102 ?_
          refine pf_RX9_57 C hP hD hS 0 rfl (Nat.le_of_ble_eq_true rfl) dX9_goDay_103 (fun H locs hP hD hS => ?_)
          have hP : va_P E.1 classes (WX9_goDay E q0 q0_town q0_weather q0_rule q0_state q0_owedBy q0_state_snow q0_state_path q0_state_debt q0_weather_inches q0_town_hold q0_town_below q0_town_hay q0_rule_code q0_rule_draft q0_rule_stack q0_rule_things i_owed ((i_slides + 1)) i_struck ((i_slid ||| ((1 <<< (v3 &&& 31))))) i_state_now i_weather_length i_weather_cycle a_weather_inches i_town_houses a_state_snow a_state_path a_town_hold a_town_below i_rule_length i_rule_drafted a_rule_things a_rule_stack a_rule_code a_state_debt a_owedBy) H := hP
          have hD : va_D A (WX9_goDay E q0 q0_town q0_weather q0_rule q0_state q0_owedBy q0_state_snow q0_state_path q0_state_debt q0_weather_inches q0_town_hold q0_town_below q0_town_hay q0_rule_code q0_rule_draft q0_rule_stack q0_rule_things i_owed ((i_slides + 1)) i_struck ((i_slid ||| ((1 <<< (v3 &&& 31))))) i_state_now i_weather_length i_weather_cycle a_weather_inches i_town_houses a_state_snow a_state_path a_town_hold a_town_below i_rule_length i_rule_drafted a_rule_things a_rule_stack a_rule_code a_state_debt a_owedBy) := hD
          refine lv_aload_n hx hb dX9_goDay_106 rfl (lv_at hl 1 rfl) ?_
          refine lv_dup hx hb dX9_goDay_107 rfl ?_
          refine gf_RX9_60 C hP 0 rfl rfl dX9_goDay_108 ?_
          refine lv_aload_n hx hb dX9_goDay_111 rfl (lv_at hl 1 rfl) ?_
          refine gf_RX9_22 C hP 0 rfl rfl dX9_goDay_112 ?_
          refine gf_RX9_102 C hP 4 rfl rfl dX9_goDay_115 ?_
          refine lv_iload_n hx hb dX9_goDay_118 rfl (lv_at hl 3 rfl) ?_
          obtain ⟨g8, hf⟩ := gd_some hf
          refine va_iald hx hb C.2.2.2.2.2.1 hP 8 0 rfl rfl (vin_in g8) dX9_goDay_119 ?_
          refine lv_iload hx hb dX9_goDay_120 (lv_at hl 0 rfl) ?_
          refine lv_icmp_ne (tgt := 129) hx hb dX9_goDay_122 (by decide) (fun c9 => ?_) (fun c9 => ?_)
          · rw [if_neg c9] at hf
            refine lv_iconst (v := 1) hx hb dX9_goDay_129 (by decide) ?_
            refine lv_aload_n hx hb dX9_goDay_130 rfl (lv_at hl 1 rfl) ?_
            refine gf_RX9_22 C hP 0 rfl rfl dX9_goDay_131 ?_
            refine gf_RX9_102 C hP 4 rfl rfl dX9_goDay_134 ?_
            refine lv_iload_n hx hb dX9_goDay_137 rfl (lv_at hl 3 rfl) ?_
            obtain ⟨g10, hf⟩ := gd_some hf
            refine va_iald hx hb C.2.2.2.2.2.1 hP 8 0 rfl rfl (vin_in g10) dX9_goDay_138 ?_
            refine lv_ishl hx hb dX9_goDay_139 ?_
            exact J140 v3 ((v3 / 2)) ((1 <<< (((a_town_below (v3 : Int32).toNatClampNeg)) &&& 31))) i_struck i_owed ((i_slides + 1)) i_struck ((i_slid ||| ((1 <<< (v3 &&& 31))))) a_state_snow a_state_path a_rule_things a_rule_stack a_state_debt a_owedBy hf _ _ _ (lv_sub hl [1, 2, 3, 0] rfl) hP hD hS
          · rw [if_pos c9] at hf
            refine lv_iconst (v := 0) hx hb dX9_goDay_125 (by decide) ?_
            refine lv_goto (tgt := 140) hx hb dX9_goDay_126 (by decide) ?_
            exact J140 v3 ((v3 / 2)) 0 i_struck i_owed ((i_slides + 1)) i_struck ((i_slid ||| ((1 <<< (v3 &&& 31))))) a_state_snow a_state_path a_rule_things a_rule_stack a_state_debt a_owedBy hf _ _ _ (lv_sub hl [1, 2, 3, 0] rfl) hP hD hS
  intro H locs ls hl hP hD hS
  have hl : lv_has ls 5 [(0, .ref q0)] := hl
  unfold fX9_goDay at hf
  refine lv_aload_n hx hb dX9_goDay_0 rfl (lv_at hl 0 rfl) ?_
  refine gf_RX9_26 C hP 0 rfl rfl dX9_goDay_1 ?_
  refine lv_aload_n hx hb dX9_goDay_4 rfl (lv_at hl 0 rfl) ?_
  refine gf_RX9_12 C hP 0 rfl rfl dX9_goDay_5 ?_
  refine gf_RX9_72 C hP 1 rfl rfl dX9_goDay_8 ?_
  obtain ⟨o1, hg2, hf⟩ := bd_some hf
  refine k_VI (As := [.int i_state_now]) C K_RX9_75 (Nat.le_of_ble_eq_true rfl) (Nat.le_of_ble_eq_true rfl) (kX10_inchesIn l E q0_weather q0_weather_inches i_weather_length i_weather_cycle a_weather_inches i_state_now o1 hg2) [2, 3] rfl rfl rfl (ci := 10) rfl rfl (q0 := 0) rfl hP hD hS hA hl.1 (Nat.le_of_ble_eq_true rfl) rfl dX9_goDay_11 (fun H locs hP hD hS => ?_)
  have hP : va_P E.1 classes (WX9_goDay E q0 q0_town q0_weather q0_rule q0_state q0_owedBy q0_state_snow q0_state_path q0_state_debt q0_weather_inches q0_town_hold q0_town_below q0_town_hay q0_rule_code q0_rule_draft q0_rule_stack q0_rule_things i_owed i_slides i_struck i_slid i_state_now i_weather_length i_weather_cycle a_weather_inches i_town_houses a_state_snow a_state_path a_town_hold a_town_below i_rule_length i_rule_drafted a_rule_things a_rule_stack a_rule_code a_state_debt a_owedBy) H := hP
  have hD : va_D A (WX9_goDay E q0 q0_town q0_weather q0_rule q0_state q0_owedBy q0_state_snow q0_state_path q0_state_debt q0_weather_inches q0_town_hold q0_town_below q0_town_hay q0_rule_code q0_rule_draft q0_rule_stack q0_rule_things i_owed i_slides i_struck i_slid i_state_now i_weather_length i_weather_cycle a_weather_inches i_town_houses a_state_snow a_state_path a_town_hold a_town_below i_rule_length i_rule_drafted a_rule_things a_rule_stack a_rule_code a_state_debt a_owedBy) := hD
  refine lv_istore_n (lv' := [(1, .int o1), (0, .ref q0)]) hx hb dX9_goDay_14 rfl hl (by decide) rfl (fun ls hl => ?_)
  refine lv_iconst (v := 0) hx hb dX9_goDay_15 (by decide) ?_
  refine lv_iload_n hx hb dX9_goDay_16 rfl (lv_at hl 0 rfl) ?_
  refine lv_ineg hx hb dX9_goDay_17 ?_
  refine r_max C q789 (Nat.le_of_ble_eq_true rfl) hl.1 (Nat.le_of_ble_eq_true rfl) dX9_goDay_18 ?_
  refine lv_istore_n (lv' := [(2, .int ((mx 0 ((-o1))))), (1, .int o1), (0, .ref q0)]) hx hb dX9_goDay_21 rfl hl (by decide) rfl (fun ls hl => ?_)
  refine lv_aload_n hx hb dX9_goDay_22 rfl (lv_at hl 2 rfl) ?_
  refine lv_iconst (v := 0) hx hb dX9_goDay_23 (by decide) ?_
  refine pf_RX9_63 C hP hD hS 0 rfl (Nat.le_of_ble_eq_true rfl) dX9_goDay_24 (fun H locs hP hD hS => ?_)
  have hP : va_P E.1 classes (WX9_goDay E q0 q0_town q0_weather q0_rule q0_state q0_owedBy q0_state_snow q0_state_path q0_state_debt q0_weather_inches q0_town_hold q0_town_below q0_town_hay q0_rule_code q0_rule_draft q0_rule_stack q0_rule_things i_owed i_slides i_struck 0 i_state_now i_weather_length i_weather_cycle a_weather_inches i_town_houses a_state_snow a_state_path a_town_hold a_town_below i_rule_length i_rule_drafted a_rule_things a_rule_stack a_rule_code a_state_debt a_owedBy) H := hP
  have hD : va_D A (WX9_goDay E q0 q0_town q0_weather q0_rule q0_state q0_owedBy q0_state_snow q0_state_path q0_state_debt q0_weather_inches q0_town_hold q0_town_below q0_town_hay q0_rule_code q0_rule_draft q0_rule_stack q0_rule_things i_owed i_slides i_struck 0 i_state_now i_weather_length i_weather_cycle a_weather_inches i_town_houses a_state_snow a_state_path a_town_hold a_town_below i_rule_length i_rule_drafted a_rule_things a_rule_stack a_rule_code a_state_debt a_owedBy) := hD
  refine lv_iload_n hx hb dX9_goDay_27 rfl (lv_at hl 1 rfl) ?_
  refine lv_if_eq (tgt := 36) hx hb dX9_goDay_28 (by decide) (fun c3 => ?_) (fun c3 => ?_)
  · rw [if_pos c3] at hf
    refine lv_iconst (v := 0) hx hb dX9_goDay_36 (by decide) ?_
    refine lv_istore_n (lv' := [(3, .int 0), (2, .int ((mx 0 ((-o1))))), (1, .int o1), (0, .ref q0)]) hx hb dX9_goDay_37 rfl hl (by decide) rfl (fun ls hl => ?_)
    obtain ⟨o13, hg14, hf⟩ := bd_some hf
    refine L38 ((mx 0 ((-o1)))) i_state_now FU 0 i_owed i_slides i_struck 0 a_state_snow a_state_path a_rule_things a_rule_stack a_state_debt a_owedBy o13 hg14 ?_ _ _ _ (lv_sub hl [3, 1, 0] rfl) hP hD hS
    intro H locs ls hl hP hD hS
    refine lv_aload_n hx hb dX9_goDay_158 rfl (lv_at hl 0 rfl) ?_
    refine gf_RX9_12 C hP 0 rfl rfl dX9_goDay_159 ?_
    refine lv_dup hx hb dX9_goDay_162 rfl ?_
    refine gf_RX9_72 C hP 1 rfl rfl dX9_goDay_163 ?_
    refine lv_iconst (v := 1) hx hb dX9_goDay_166 (by decide) ?_
    refine lv_iadd hx hb dX9_goDay_167 ?_
    refine pf_RX9_72 C hP hD hS 1 rfl (Nat.le_of_ble_eq_true rfl) dX9_goDay_168 (fun H locs hP hD hS => ?_)
    have hP : va_P E.1 classes (WX9_goDay E q0 q0_town q0_weather q0_rule q0_state q0_owedBy q0_state_snow q0_state_path q0_state_debt q0_weather_inches q0_town_hold q0_town_below q0_town_hay q0_rule_code q0_rule_draft q0_rule_stack q0_rule_things o13.1 o13.2.1 o13.2.2.1 o13.2.2.2.1 ((i_state_now + 1)) i_weather_length i_weather_cycle a_weather_inches i_town_houses o13.2.2.2.2.1 o13.2.2.2.2.2.1 a_town_hold a_town_below i_rule_length i_rule_drafted o13.2.2.2.2.2.2.1 o13.2.2.2.2.2.2.2.1 a_rule_code o13.2.2.2.2.2.2.2.2.1 o13.2.2.2.2.2.2.2.2.2) H := hP
    have hD : va_D A (WX9_goDay E q0 q0_town q0_weather q0_rule q0_state q0_owedBy q0_state_snow q0_state_path q0_state_debt q0_weather_inches q0_town_hold q0_town_below q0_town_hay q0_rule_code q0_rule_draft q0_rule_stack q0_rule_things o13.1 o13.2.1 o13.2.2.1 o13.2.2.2.1 ((i_state_now + 1)) i_weather_length i_weather_cycle a_weather_inches i_town_houses o13.2.2.2.2.1 o13.2.2.2.2.2.1 a_town_hold a_town_below i_rule_length i_rule_drafted o13.2.2.2.2.2.2.1 o13.2.2.2.2.2.2.2.1 a_rule_code o13.2.2.2.2.2.2.2.2.1 o13.2.2.2.2.2.2.2.2.2) := hD
    have hj0 := Option.some.inj hf
    obtain ⟨ha0, hj1⟩ := Prod.mk.inj hj0
    obtain ⟨ha1, hj2⟩ := Prod.mk.inj hj1
    obtain ⟨ha2, hj3⟩ := Prod.mk.inj hj2
    obtain ⟨ha3, hj4⟩ := Prod.mk.inj hj3
    obtain ⟨ha4, hj5⟩ := Prod.mk.inj hj4
    obtain ⟨ha5, hj6⟩ := Prod.mk.inj hj5
    obtain ⟨ha6, hj7⟩ := Prod.mk.inj hj6
    obtain ⟨ha7, hj8⟩ := Prod.mk.inj hj7
    obtain ⟨ha8, hj9⟩ := Prod.mk.inj hj8
    obtain ⟨ha9, hj10⟩ := Prod.mk.inj hj9
    subst ha0
    subst ha1
    subst ha2
    subst ha3
    subst ha4
    subst ha5
    subst ha6
    subst ha7
    subst ha8
    subst ha9
    subst hj10
    exact hret _ _ _ _ dX9_goDay_171 hP hD hS
  · rw [if_neg c3] at hf
    refine lv_aload_n hx hb dX9_goDay_31 rfl (lv_at hl 2 rfl) ?_
    refine lv_iload_n hx hb dX9_goDay_32 rfl (lv_at hl 1 rfl) ?_
    obtain ⟨o15, hg16, hf⟩ := bd_some hf
    refine k_VV (As := [.int o1]) C K_RX9_87 (Nat.le_of_ble_eq_true rfl) (Nat.le_of_ble_eq_true rfl) (kX9_fallOnTown l E q0 q0_town q0_weather q0_rule q0_state q0_owedBy q0_town_hold q0_town_below q0_town_hay q0_state_snow q0_state_path q0_state_debt i_owed i_slides i_struck 0 i_town_houses i_state_now a_state_snow a_state_path o1 o15.1 o15.2 hg16) [0, 4, 1, 5, 6] rfl rfl rfl (ci := 9) rfl rfl (q0 := 0) rfl hP hD hS hA hl.1 (Nat.le_of_ble_eq_true rfl) rfl dX9_goDay_33 (fun H locs hP hD hS => ?_)
    have hP : va_P E.1 classes (WX9_goDay E q0 q0_town q0_weather q0_rule q0_state q0_owedBy q0_state_snow q0_state_path q0_state_debt q0_weather_inches q0_town_hold q0_town_below q0_town_hay q0_rule_code q0_rule_draft q0_rule_stack q0_rule_things i_owed i_slides i_struck 0 i_state_now i_weather_length i_weather_cycle a_weather_inches i_town_houses o15.1 o15.2 a_town_hold a_town_below i_rule_length i_rule_drafted a_rule_things a_rule_stack a_rule_code a_state_debt a_owedBy) H := hP
    have hD : va_D A (WX9_goDay E q0 q0_town q0_weather q0_rule q0_state q0_owedBy q0_state_snow q0_state_path q0_state_debt q0_weather_inches q0_town_hold q0_town_below q0_town_hay q0_rule_code q0_rule_draft q0_rule_stack q0_rule_things i_owed i_slides i_struck 0 i_state_now i_weather_length i_weather_cycle a_weather_inches i_town_houses o15.1 o15.2 a_town_hold a_town_below i_rule_length i_rule_drafted a_rule_things a_rule_stack a_rule_code a_state_debt a_owedBy) := hD
    refine lv_iconst (v := 0) hx hb dX9_goDay_36 (by decide) ?_
    refine lv_istore_n (lv' := [(3, .int 0), (2, .int ((mx 0 ((-o1))))), (1, .int o1), (0, .ref q0)]) hx hb dX9_goDay_37 rfl hl (by decide) rfl (fun ls hl => ?_)
    obtain ⟨o17, hg18, hf⟩ := bd_some hf
    refine L38 ((mx 0 ((-o1)))) i_state_now FU 0 i_owed i_slides i_struck 0 o15.1 o15.2 a_rule_things a_rule_stack a_state_debt a_owedBy o17 hg18 ?_ _ _ _ (lv_sub hl [3, 1, 0] rfl) hP hD hS
    intro H locs ls hl hP hD hS
    refine lv_aload_n hx hb dX9_goDay_158 rfl (lv_at hl 0 rfl) ?_
    refine gf_RX9_12 C hP 0 rfl rfl dX9_goDay_159 ?_
    refine lv_dup hx hb dX9_goDay_162 rfl ?_
    refine gf_RX9_72 C hP 1 rfl rfl dX9_goDay_163 ?_
    refine lv_iconst (v := 1) hx hb dX9_goDay_166 (by decide) ?_
    refine lv_iadd hx hb dX9_goDay_167 ?_
    refine pf_RX9_72 C hP hD hS 1 rfl (Nat.le_of_ble_eq_true rfl) dX9_goDay_168 (fun H locs hP hD hS => ?_)
    have hP : va_P E.1 classes (WX9_goDay E q0 q0_town q0_weather q0_rule q0_state q0_owedBy q0_state_snow q0_state_path q0_state_debt q0_weather_inches q0_town_hold q0_town_below q0_town_hay q0_rule_code q0_rule_draft q0_rule_stack q0_rule_things o17.1 o17.2.1 o17.2.2.1 o17.2.2.2.1 ((i_state_now + 1)) i_weather_length i_weather_cycle a_weather_inches i_town_houses o17.2.2.2.2.1 o17.2.2.2.2.2.1 a_town_hold a_town_below i_rule_length i_rule_drafted o17.2.2.2.2.2.2.1 o17.2.2.2.2.2.2.2.1 a_rule_code o17.2.2.2.2.2.2.2.2.1 o17.2.2.2.2.2.2.2.2.2) H := hP
    have hD : va_D A (WX9_goDay E q0 q0_town q0_weather q0_rule q0_state q0_owedBy q0_state_snow q0_state_path q0_state_debt q0_weather_inches q0_town_hold q0_town_below q0_town_hay q0_rule_code q0_rule_draft q0_rule_stack q0_rule_things o17.1 o17.2.1 o17.2.2.1 o17.2.2.2.1 ((i_state_now + 1)) i_weather_length i_weather_cycle a_weather_inches i_town_houses o17.2.2.2.2.1 o17.2.2.2.2.2.1 a_town_hold a_town_below i_rule_length i_rule_drafted o17.2.2.2.2.2.2.1 o17.2.2.2.2.2.2.2.1 a_rule_code o17.2.2.2.2.2.2.2.2.1 o17.2.2.2.2.2.2.2.2.2) := hD
    have hj0 := Option.some.inj hf
    obtain ⟨ha0, hj1⟩ := Prod.mk.inj hj0
    obtain ⟨ha1, hj2⟩ := Prod.mk.inj hj1
    obtain ⟨ha2, hj3⟩ := Prod.mk.inj hj2
    obtain ⟨ha3, hj4⟩ := Prod.mk.inj hj3
    obtain ⟨ha4, hj5⟩ := Prod.mk.inj hj4
    obtain ⟨ha5, hj6⟩ := Prod.mk.inj hj5
    obtain ⟨ha6, hj7⟩ := Prod.mk.inj hj6
    obtain ⟨ha7, hj8⟩ := Prod.mk.inj hj7
    obtain ⟨ha8, hj9⟩ := Prod.mk.inj hj8
    obtain ⟨ha9, hj10⟩ := Prod.mk.inj hj9
    subst ha0
    subst ha1
    subst ha2
    subst ha3
    subst ha4
    subst ha5
    subst ha6
    subst ha7
    subst ha8
    subst ha9
    subst hj10
    exact hret _ _ _ _ dX9_goDay_171 hP hD hS
theorem q257 : Cond.fieldLinkNest RX3 49 "SnowForSummer$State" "debt" "[I" "SnowForSummer" ∈ NL := NL_mem 257 (by decide +kernel) (by decide +kernel)
theorem gf_RX3_49 {p : Program} {l : Launch} {e : Env} {R : Room} {s : State} {m : MethodId} {args : Array Value} {below : List Frame} {meth : Method} {c : Code} {H : Heap} {locs : List Loc} {cells slots : Nat} {Q : State → Prop} {E : ENV} {cc : ByteArray} {n : Nat} {r : Option FieldType} {pc : Nat} {ls : Array Slot} {rest : List Value} {a : Nat} {ws : va_W} {nm ds : String} {fs : List Value} {A : Nat → Prop} {v : Value} (C : Cx E A ⟨RX3, nm, ds⟩ cc n r p s m args meth c) (hP : va_P E.1 classes ws H) (q0 : Nat) (he : ws[q0]? = some (a, .inr (5, fs))) (hv : fs[2]? = some v) (hdg : decode cc pc = .ok (.getfield 49, 3))
    (kk : W p l e R s m args below meth c H locs cells slots Q (F0 m (pc + 3) ls (v :: rest))) : W p l e R s m args below meth c H locs cells slots Q (F0 m pc ls (.ref a :: rest)) :=
  va_getN (C := RX5) (T := TX5) (N := 4) (Ts := wl ⟨RX3, nm, ds⟩ cc n r) C.1 C.2.1 C.2.2.2.2.1 (fun w h => List.mem_cons_of_mem _ (inT5 w h)) C.2.2.2.1 C.2.2.2.2.2.1 hP q0 he rfl 2 (by decide) (va_Nw.use rfl (C.2.2.2.2.2.2.2.2.1 _ q257)) (fun _ h9 => h9) hv hdg kk
theorem inT3 : ∀ w ∈ u_ws RX3 TX3 4, w ∈ Tg := by decide +kernel
theorem q371 : Cond.fieldLink RX3 15 "SnowForSummer$Ring" "steps" "[I" ∈ Tg := Tg_mem 371 (by decide +kernel) (by decide +kernel)
theorem gf_RX3_15 {p : Program} {l : Launch} {e : Env} {R : Room} {s : State} {m : MethodId} {args : Array Value} {below : List Frame} {meth : Method} {c : Code} {H : Heap} {locs : List Loc} {cells slots : Nat} {Q : State → Prop} {E : ENV} {cc : ByteArray} {n : Nat} {r : Option FieldType} {pc : Nat} {ls : Array Slot} {rest : List Value} {a : Nat} {ws : va_W} {nm ds : String} {fs : List Value} {A : Nat → Prop} {v : Value} (C : Cx E A ⟨RX3, nm, ds⟩ cc n r p s m args meth c) (hP : va_P E.1 classes ws H) (q0 : Nat) (he : ws[q0]? = some (a, .inr (3, fs))) (hv : fs[1]? = some v) (hdg : decode cc pc = .ok (.getfield 15, 3))
    (kk : W p l e R s m args below meth c H locs cells slots Q (F0 m (pc + 3) ls (v :: rest))) : W p l e R s m args below meth c H locs cells slots Q (F0 m pc ls (.ref a :: rest)) :=
  va_get (C := RX3) (T := TX3) (N := 4) (Ts := wl ⟨RX3, nm, ds⟩ cc n r) C.1 C.2.1 C.2.2.2.2.1 (fun w h => List.mem_cons_of_mem _ (inT3 w h)) C.2.2.2.1 C.2.2.2.2.2.1 hP q0 he rfl 1 (by decide) (C.2.2.2.2.1 _ (List.mem_cons_of_mem _ q371)) (fun _ h9 => h9) hv hdg kk
theorem q936 : Cond.methodLink RX3 43 Lib.Math.min.name ∈ Tg := Tg_mem 936 (by decide +kernel) (by decide +kernel)
theorem dX3_nearest_0 : decode cX3_nearest 0 = .ok (.bipush 99, 2) := by decide +kernel
theorem dX3_nearest_2 : decode cX3_nearest 2 = .ok (.istore 4, 2) := by decide +kernel
theorem dX3_nearest_4 : decode cX3_nearest 4 = .ok (.iload_n 3, 1) := by decide +kernel
theorem dX3_nearest_5 : decode cX3_nearest 5 = .ok (.istore 5, 2) := by decide +kernel
theorem dX3_nearest_7 : decode cX3_nearest 7 = .ok (.iload 5, 2) := by decide +kernel
theorem dX3_nearest_9 : decode cX3_nearest 9 = .ok (.bipush 7, 2) := by decide +kernel
theorem dX3_nearest_11 : decode cX3_nearest 11 = .ok (.if_icmp .ge 38, 3) := by decide +kernel
theorem dX3_nearest_14 : decode cX3_nearest 14 = .ok (.aload_n 1, 1) := by decide +kernel
theorem dX3_nearest_15 : decode cX3_nearest 15 = .ok (.getfield 49, 3) := by decide +kernel
theorem dX3_nearest_18 : decode cX3_nearest 18 = .ok (.iload_n 2, 1) := by decide +kernel
theorem dX3_nearest_19 : decode cX3_nearest 19 = .ok (.bipush 7, 2) := by decide +kernel
theorem dX3_nearest_21 : decode cX3_nearest 21 = .ok (.imul, 1) := by decide +kernel
theorem dX3_nearest_22 : decode cX3_nearest 22 = .ok (.iload 5, 2) := by decide +kernel
theorem dX3_nearest_24 : decode cX3_nearest 24 = .ok (.iadd, 1) := by decide +kernel
theorem dX3_nearest_25 : decode cX3_nearest 25 = .ok (.iaload, 1) := by decide +kernel
theorem dX3_nearest_26 : decode cX3_nearest 26 = .ok (.ifCond .le 17, 3) := by decide +kernel
theorem dX3_nearest_29 : decode cX3_nearest 29 = .ok (.iload 4, 2) := by decide +kernel
theorem dX3_nearest_31 : decode cX3_nearest 31 = .ok (.aload_n 0, 1) := by decide +kernel
theorem dX3_nearest_32 : decode cX3_nearest 32 = .ok (.getfield 15, 3) := by decide +kernel
theorem dX3_nearest_35 : decode cX3_nearest 35 = .ok (.iload 5, 2) := by decide +kernel
theorem dX3_nearest_37 : decode cX3_nearest 37 = .ok (.iaload, 1) := by decide +kernel
theorem dX3_nearest_38 : decode cX3_nearest 38 = .ok (.invokestatic 43, 3) := by decide +kernel
theorem dX3_nearest_41 : decode cX3_nearest 41 = .ok (.istore 4, 2) := by decide +kernel
theorem dX3_nearest_43 : decode cX3_nearest 43 = .ok (.iinc 5 1, 3) := by decide +kernel
theorem dX3_nearest_46 : decode cX3_nearest 46 = .ok (.goto (-39), 3) := by decide +kernel
theorem dX3_nearest_49 : decode cX3_nearest 49 = .ok (.iload 4, 2) := by decide +kernel
theorem dX3_nearest_51 : decode cX3_nearest 51 = .ok (.ireturn, 1) := by decide +kernel
def WX3_nearest (E : ENV) (q0 : Nat) (q0_members : Nat) (q0_steps : Nat) (q1 : Nat) (q1_snow : Nat) (q1_path : Nat) (q1_debt : Nat) (i_size : Int32) (i_least : Int32) (a_steps : Nat → Int32) (i_p1_now : Int32) (a_p1_debt : Nat → Int32) : va_W := [(q0, .inr (3, [.ref q0_members, .ref q0_steps, .int i_size, .int i_least])), (q0_steps, .inl (E.2.1, 7, .inl a_steps)), (q1, .inr (5, [.ref q1_snow, .ref q1_path, .ref q1_debt, .int i_p1_now])), (q1_debt, .inl (E.2.1, 49, .inl a_p1_debt))]
set_option maxHeartbeats 4000000 in
set_option maxRecDepth 20000 in
theorem kX3_nearest (l : Launch) (E : ENV) (q0 : Nat) (q0_members : Nat) (q0_steps : Nat) (q1 : Nat) (q1_snow : Nat) (q1_path : Nat) (q1_debt : Nat) (i_size : Int32) (i_least : Int32) (a_steps : Nat → Int32) (i_p1_now : Int32) (a_p1_debt : Nat → Int32) (p2 : Int32) (p3 : Int32) (r9 : Int32) (hf : fX3_nearest a_steps a_p1_debt p2 p3 = some r9) : CI l E yX3_nearest cX3_nearest 6 (some .int) 1 [.ref q0, .ref q1, .int p2, .int p3] (WX3_nearest E q0 q0_members q0_steps q1 q1_snow q1_path q1_debt i_size i_least a_steps i_p1_now a_p1_debt) (WX3_nearest E q0 q0_members q0_steps q1 q1_snow q1_path q1_debt i_size i_least a_steps i_p1_now a_p1_debt) r9 := by
  refine begI (by decide +kernel) (Nat.le_of_ble_eq_true rfl) ?_
  intro p e s m args below meth c A Q C hA hret
  have hx := C.1
  have hb := C.2.1
  have L7 : ∀ (n : Nat) (v4 : Int32) (v5 : Int32) (o : Int32), fX3_nearest_L7 a_steps a_p1_debt p2 n v4 v5 = some o → (GO p l e 1 s m args below meth c Q E A 6 49 [] [(4, .int o)] (WX3_nearest E q0 q0_members q0_steps q1 q1_snow q1_path q1_debt i_size i_least a_steps i_p1_now a_p1_debt)) → GO p l e 1 s m args below meth c Q E A 6 7 [] [(0, .ref q0), (1, .ref q1), (2, .int p2), (4, .int v4), (5, .int v5)] (WX3_nearest E q0 q0_members q0_steps q1 q1_snow q1_path q1_debt i_size i_least a_steps i_p1_now a_p1_debt) := by
    intro n
    induction n with
    | zero =>
      intro v4 v5 o hf
      have hf : none = some o := hf
      cases hf
    | succ n ih =>
      intro v4 v5 o hf hE
      intro H locs ls hl hP hD hS
      rw [fX3_nearest_L7] at hf
      refine lv_iload hx hb dX3_nearest_7 (lv_at hl 4 rfl) ?_
      refine lv_bipush (v := 7) hx hb dX3_nearest_9 (by decide) ?_
      refine lv_icmp_ge (tgt := 49) hx hb dX3_nearest_11 (by decide) (fun c1 => ?_) (fun c1 => ?_)
      · rw [if_pos c1] at hf
        have hf := Option.some.inj hf
        subst hf
        exact hE _ _ _ (lv_sub hl [3] rfl) hP hD hS
      · rw [if_neg c1] at hf
        refine lv_aload_n hx hb dX3_nearest_14 rfl (lv_at hl 1 rfl) ?_
        refine gf_RX3_49 C hP 2 rfl rfl dX3_nearest_15 ?_
        refine lv_iload_n hx hb dX3_nearest_18 rfl (lv_at hl 2 rfl) ?_
        refine lv_bipush (v := 7) hx hb dX3_nearest_19 (by decide) ?_
        refine lv_imul hx hb dX3_nearest_21 ?_
        refine lv_iload hx hb dX3_nearest_22 (lv_at hl 4 rfl) ?_
        refine lv_iadd hx hb dX3_nearest_24 ?_
        obtain ⟨g2, hf⟩ := gd_some hf
        refine va_iald hx hb C.2.2.2.2.2.1 hP 3 0 rfl rfl (vin_in g2) dX3_nearest_25 ?_
        refine lv_if_le (tgt := 43) hx hb dX3_nearest_26 (by decide) (fun c3 => ?_) (fun c3 => ?_)
        · rw [if_pos c3] at hf
          refine lv_iinc (v := (v5 + 1)) (lv' := [(5, .int ((v5 + 1))), (0, .ref q0), (1, .ref q1), (2, .int p2), (4, .int v4)]) hx hb dX3_nearest_43 hl (k := 4) rfl rfl (by decide) rfl (fun ls hl => ?_)
          refine lv_goto (tgt := 7) hx hb dX3_nearest_46 (by decide) ?_
          exact ih v4 ((v5 + 1)) _ hf hE _ _ _ (lv_sub hl [1, 2, 3, 4, 0] rfl) hP hD hS
        · rw [if_neg c3] at hf
          refine lv_iload hx hb dX3_nearest_29 (lv_at hl 3 rfl) ?_
          refine lv_aload_n hx hb dX3_nearest_31 rfl (lv_at hl 0 rfl) ?_
          refine gf_RX3_15 C hP 0 rfl rfl dX3_nearest_32 ?_
          refine lv_iload hx hb dX3_nearest_35 (lv_at hl 4 rfl) ?_
          obtain ⟨g4, hf⟩ := gd_some hf
          refine va_iald hx hb C.2.2.2.2.2.1 hP 1 0 rfl rfl (vin_in g4) dX3_nearest_37 ?_
          refine r_min C q936 (Nat.le_of_ble_eq_true rfl) hl.1 (Nat.le_of_ble_eq_true rfl) dX3_nearest_38 ?_
          refine lv_istore (lv' := [(4, .int ((mn v4 ((a_steps (v5 : Int32).toNatClampNeg))))), (0, .ref q0), (1, .ref q1), (2, .int p2), (5, .int v5)]) hx hb dX3_nearest_41 hl (by decide) rfl (fun ls hl => ?_)
          refine lv_iinc (v := (v5 + 1)) (lv' := [(5, .int ((v5 + 1))), (4, .int ((mn v4 ((a_steps (v5 : Int32).toNatClampNeg))))), (0, .ref q0), (1, .ref q1), (2, .int p2)]) hx hb dX3_nearest_43 hl (k := 4) rfl rfl (by decide) rfl (fun ls hl => ?_)
          refine lv_goto (tgt := 7) hx hb dX3_nearest_46 (by decide) ?_
          exact ih ((mn v4 ((a_steps (v5 : Int32).toNatClampNeg)))) ((v5 + 1)) _ hf hE _ _ _ (lv_sub hl [2, 3, 4, 1, 0] rfl) hP hD hS
  intro H locs ls hl hP hD hS
  have hl : lv_has ls 6 [(0, .ref q0), (1, .ref q1), (2, .int p2), (3, .int p3)] := hl
  unfold fX3_nearest at hf
  refine lv_bipush (v := 99) hx hb dX3_nearest_0 (by decide) ?_
  refine lv_istore (lv' := [(4, .int 99), (0, .ref q0), (1, .ref q1), (2, .int p2), (3, .int p3)]) hx hb dX3_nearest_2 hl (by decide) rfl (fun ls hl => ?_)
  refine lv_iload_n hx hb dX3_nearest_4 rfl (lv_at hl 4 rfl) ?_
  refine lv_istore (lv' := [(5, .int p3), (4, .int 99), (0, .ref q0), (1, .ref q1), (2, .int p2), (3, .int p3)]) hx hb dX3_nearest_5 hl (by decide) rfl (fun ls hl => ?_)
  obtain ⟨o5, hg6, hf⟩ := bd_some hf
  refine L7 FU 99 p3 o5 hg6 ?_ _ _ _ (lv_sub hl [2, 3, 4, 1, 0] rfl) hP hD hS
  intro H locs ls hl hP hD hS
  refine lv_iload hx hb dX3_nearest_49 (lv_at hl 0 rfl) ?_
  have hj0 := Option.some.inj hf
  subst hj0
  exact hret _ _ _ _ dX3_nearest_51 rfl hP hD hS
theorem K_RX3_33 : KS RX3 33 yJ7_fill_53178 cJ7_fill_53178 4 none 2 := ⟨Tg_mem 727 (by decide +kernel) (by decide +kernel), Tg_mem 114 (by decide +kernel) (by decide +kernel), Tg_mem 931 (by decide +kernel) (by decide +kernel), Tg_mem 726 (by decide +kernel) (by decide +kernel), by decide +kernel⟩
theorem K_RX3_39 : KV RX3 39 yX3_nearest cX3_nearest 6 (some .int) 3 := ⟨Tg_mem 935 (by decide +kernel) (by decide +kernel), Tg_mem 100 (by decide +kernel) (by decide +kernel), Tg_mem 932 (by decide +kernel) (by decide +kernel), Tg_mem 934 (by decide +kernel) (by decide +kernel), Tg_mem 23 (by decide +kernel) (by decide +kernel), by decide +kernel⟩
theorem dX3_measure_0 : decode cX3_measure 0 = .ok (.aload_n 0, 1) := by decide +kernel
theorem dX3_measure_1 : decode cX3_measure 1 = .ok (.getfield 15, 3) := by decide +kernel
theorem dX3_measure_4 : decode cX3_measure 4 = .ok (.bipush 99, 2) := by decide +kernel
theorem dX3_measure_6 : decode cX3_measure 6 = .ok (.invokestatic 33, 3) := by decide +kernel
theorem dX3_measure_9 : decode cX3_measure 9 = .ok (.aload_n 0, 1) := by decide +kernel
theorem dX3_measure_10 : decode cX3_measure 10 = .ok (.getfield 15, 3) := by decide +kernel
theorem dX3_measure_13 : decode cX3_measure 13 = .ok (.iload_n 2, 1) := by decide +kernel
theorem dX3_measure_14 : decode cX3_measure 14 = .ok (.iconst 0, 1) := by decide +kernel
theorem dX3_measure_15 : decode cX3_measure 15 = .ok (.iastore, 1) := by decide +kernel
theorem dX3_measure_16 : decode cX3_measure 16 = .ok (.iconst 1, 1) := by decide +kernel
theorem dX3_measure_17 : decode cX3_measure 17 = .ok (.istore_n 3, 1) := by decide +kernel
theorem dX3_measure_18 : decode cX3_measure 18 = .ok (.iload_n 3, 1) := by decide +kernel
theorem dX3_measure_19 : decode cX3_measure 19 = .ok (.bipush 7, 2) := by decide +kernel
theorem dX3_measure_21 : decode cX3_measure 21 = .ok (.if_icmp .ge 54, 3) := by decide +kernel
theorem dX3_measure_24 : decode cX3_measure 24 = .ok (.iload_n 2, 1) := by decide +kernel
theorem dX3_measure_25 : decode cX3_measure 25 = .ok (.iconst 1, 1) := by decide +kernel
theorem dX3_measure_26 : decode cX3_measure 26 = .ok (.iadd, 1) := by decide +kernel
theorem dX3_measure_27 : decode cX3_measure 27 = .ok (.istore 4, 2) := by decide +kernel
theorem dX3_measure_29 : decode cX3_measure 29 = .ok (.iload 4, 2) := by decide +kernel
theorem dX3_measure_31 : decode cX3_measure 31 = .ok (.bipush 7, 2) := by decide +kernel
theorem dX3_measure_33 : decode cX3_measure 33 = .ok (.if_icmp .ge 36, 3) := by decide +kernel
theorem dX3_measure_36 : decode cX3_measure 36 = .ok (.aload_n 0, 1) := by decide +kernel
theorem dX3_measure_37 : decode cX3_measure 37 = .ok (.getfield 15, 3) := by decide +kernel
theorem dX3_measure_40 : decode cX3_measure 40 = .ok (.iload 4, 2) := by decide +kernel
theorem dX3_measure_42 : decode cX3_measure 42 = .ok (.aload_n 0, 1) := by decide +kernel
theorem dX3_measure_43 : decode cX3_measure 43 = .ok (.getfield 15, 3) := by decide +kernel
theorem dX3_measure_46 : decode cX3_measure 46 = .ok (.iload 4, 2) := by decide +kernel
theorem dX3_measure_48 : decode cX3_measure 48 = .ok (.iaload, 1) := by decide +kernel
theorem dX3_measure_49 : decode cX3_measure 49 = .ok (.iconst 1, 1) := by decide +kernel
theorem dX3_measure_50 : decode cX3_measure 50 = .ok (.aload_n 0, 1) := by decide +kernel
theorem dX3_measure_51 : decode cX3_measure 51 = .ok (.aload_n 1, 1) := by decide +kernel
theorem dX3_measure_52 : decode cX3_measure 52 = .ok (.iload 4, 2) := by decide +kernel
theorem dX3_measure_54 : decode cX3_measure 54 = .ok (.iload_n 2, 1) := by decide +kernel
theorem dX3_measure_55 : decode cX3_measure 55 = .ok (.invokevirtual 39, 3) := by decide +kernel
theorem dX3_measure_58 : decode cX3_measure 58 = .ok (.iadd, 1) := by decide +kernel
theorem dX3_measure_59 : decode cX3_measure 59 = .ok (.invokestatic 43, 3) := by decide +kernel
theorem dX3_measure_62 : decode cX3_measure 62 = .ok (.iastore, 1) := by decide +kernel
theorem dX3_measure_63 : decode cX3_measure 63 = .ok (.iinc 4 1, 3) := by decide +kernel
theorem dX3_measure_66 : decode cX3_measure 66 = .ok (.goto (-37), 3) := by decide +kernel
theorem dX3_measure_69 : decode cX3_measure 69 = .ok (.iinc 3 1, 3) := by decide +kernel
theorem dX3_measure_72 : decode cX3_measure 72 = .ok (.goto (-54), 3) := by decide +kernel
theorem dX3_measure_75 : decode cX3_measure 75 = .ok (.return_, 1) := by decide +kernel
def WX3_measure (E : ENV) (q0 : Nat) (q0_members : Nat) (q0_steps : Nat) (q1 : Nat) (q1_snow : Nat) (q1_path : Nat) (q1_debt : Nat) (i_size : Int32) (i_least : Int32) (a_steps : Nat → Int32) (i_p1_now : Int32) (a_p1_debt : Nat → Int32) : va_W := [(q0, .inr (3, [.ref q0_members, .ref q0_steps, .int i_size, .int i_least])), (q0_steps, .inl (E.2.1, 7, .inl a_steps)), (q1, .inr (5, [.ref q1_snow, .ref q1_path, .ref q1_debt, .int i_p1_now])), (q1_debt, .inl (E.2.1, 49, .inl a_p1_debt))]
set_option maxHeartbeats 4000000 in
set_option maxRecDepth 20000 in
theorem kX3_measure (l : Launch) (E : ENV) (q0 : Nat) (q0_members : Nat) (q0_steps : Nat) (q1 : Nat) (q1_snow : Nat) (q1_path : Nat) (q1_debt : Nat) (i_size : Int32) (i_least : Int32) (a_steps : Nat → Int32) (i_p1_now : Int32) (a_p1_debt : Nat → Int32) (p2 : Int32) (a_steps9 : Nat → Int32) (hf : fX3_measure a_steps a_p1_debt p2 = some a_steps9) : CV l E yX3_measure cX3_measure 5 2 [.ref q0, .ref q1, .int p2] (WX3_measure E q0 q0_members q0_steps q1 q1_snow q1_path q1_debt i_size i_least a_steps i_p1_now a_p1_debt) (WX3_measure E q0 q0_members q0_steps q1 q1_snow q1_path q1_debt i_size i_least a_steps9 i_p1_now a_p1_debt) := by
  refine begV (by decide +kernel) (Nat.le_of_ble_eq_true rfl) ?_
  intro p e s m args below meth c A Q C hA hret
  have hx := C.1
  have hb := C.2.1
  have L18 : ∀ (n : Nat) (v3 : Int32) (a_steps : Nat → Int32) (o : (Nat → Int32)), fX3_measure_L18 a_p1_debt p2 n v3 a_steps = some o → (GO p l e 2 s m args below meth c Q E A 5 75 [] [] (WX3_measure E q0 q0_members q0_steps q1 q1_snow q1_path q1_debt i_size i_least o i_p1_now a_p1_debt)) → GO p l e 2 s m args below meth c Q E A 5 18 [] [(0, .ref q0), (1, .ref q1), (2, .int p2), (3, .int v3)] (WX3_measure E q0 q0_members q0_steps q1 q1_snow q1_path q1_debt i_size i_least a_steps i_p1_now a_p1_debt) := by
    intro n
    induction n with
    | zero =>
      intro v3 a_steps o hf
      have hf : none = some o := hf
      cases hf
    | succ n ih =>
      intro v3 a_steps o hf hE
      have L29 : ∀ (v3 : Int32), ∀ (n : Nat) (v4 : Int32) (a_steps : Nat → Int32) (o : (Nat → Int32)), fX3_measure_L29 a_p1_debt p2 n v4 a_steps = some o → (GO p l e 2 s m args below meth c Q E A 5 69 [] [(0, .ref q0), (1, .ref q1), (2, .int p2), (3, .int v3)] (WX3_measure E q0 q0_members q0_steps q1 q1_snow q1_path q1_debt i_size i_least o i_p1_now a_p1_debt)) → GO p l e 2 s m args below meth c Q E A 5 29 [] [(0, .ref q0), (1, .ref q1), (2, .int p2), (3, .int v3), (4, .int v4)] (WX3_measure E q0 q0_members q0_steps q1 q1_snow q1_path q1_debt i_size i_least a_steps i_p1_now a_p1_debt) := by
        intro v3
        intro n
        induction n with
        | zero =>
          intro v4 a_steps o hf
          have hf : none = some o := hf
          cases hf
        | succ n ih =>
          intro v4 a_steps o hf hE
          intro H locs ls hl hP hD hS
          rw [fX3_measure_L29] at hf
          refine lv_iload hx hb dX3_measure_29 (lv_at hl 4 rfl) ?_
          refine lv_bipush (v := 7) hx hb dX3_measure_31 (by decide) ?_
          refine lv_icmp_ge (tgt := 69) hx hb dX3_measure_33 (by decide) (fun c5 => ?_) (fun c5 => ?_)
          · rw [if_pos c5] at hf
            have hf := Option.some.inj hf
            subst hf
            exact hE _ _ _ (lv_sub hl [0, 1, 2, 3] rfl) hP hD hS
          · rw [if_neg c5] at hf
            refine lv_aload_n hx hb dX3_measure_36 rfl (lv_at hl 0 rfl) ?_
            refine gf_RX3_15 C hP 0 rfl rfl dX3_measure_37 ?_
            refine lv_iload hx hb dX3_measure_40 (lv_at hl 4 rfl) ?_
            refine lv_aload_n hx hb dX3_measure_42 rfl (lv_at hl 0 rfl) ?_
            refine gf_RX3_15 C hP 0 rfl rfl dX3_measure_43 ?_
            refine lv_iload hx hb dX3_measure_46 (lv_at hl 4 rfl) ?_
            obtain ⟨g6, hf⟩ := gd_some hf
            refine va_iald hx hb C.2.2.2.2.2.1 hP 1 0 rfl rfl (vin_in g6) dX3_measure_48 ?_
            refine lv_iconst (v := 1) hx hb dX3_measure_49 (by decide) ?_
            refine lv_aload_n hx hb dX3_measure_50 rfl (lv_at hl 0 rfl) ?_
            refine lv_aload_n hx hb dX3_measure_51 rfl (lv_at hl 1 rfl) ?_
            refine lv_iload hx hb dX3_measure_52 (lv_at hl 4 rfl) ?_
            refine lv_iload_n hx hb dX3_measure_54 rfl (lv_at hl 2 rfl) ?_
            obtain ⟨o7, hg8, hf⟩ := bd_some hf
            refine k_VI (As := [.ref q1, .int v4, .int p2]) C K_RX3_39 (Nat.le_of_ble_eq_true rfl) (Nat.le_of_ble_eq_true rfl) (kX3_nearest l E q0 q0_members q0_steps q1 q1_snow q1_path q1_debt i_size i_least a_steps i_p1_now a_p1_debt v4 p2 o7 hg8) [0, 1, 2, 3] rfl rfl rfl (ci := 3) rfl rfl (q0 := 0) rfl hP hD hS hA hl.1 (Nat.le_of_ble_eq_true rfl) rfl dX3_measure_55 (fun H locs hP hD hS => ?_)
            have hP : va_P E.1 classes (WX3_measure E q0 q0_members q0_steps q1 q1_snow q1_path q1_debt i_size i_least a_steps i_p1_now a_p1_debt) H := hP
            have hD : va_D A (WX3_measure E q0 q0_members q0_steps q1 q1_snow q1_path q1_debt i_size i_least a_steps i_p1_now a_p1_debt) := hD
            refine lv_iadd hx hb dX3_measure_58 ?_
            refine r_min C q936 (Nat.le_of_ble_eq_true rfl) hl.1 (Nat.le_of_ble_eq_true rfl) dX3_measure_59 ?_
            obtain ⟨g9, hf⟩ := gd_some hf
            refine va_iast hx hb C.2.2.2.2.2.1 hP hD hS 1 0 rfl rfl (vin_in g9) dX3_measure_62 (fun H locs hP hD hS => ?_)
            have hP : va_P E.1 classes (WX3_measure E q0 q0_members q0_steps q1 q1_snow q1_path q1_debt i_size i_least ((upd a_steps (v4 : Int32).toNatClampNeg ((mn ((a_steps (v4 : Int32).toNatClampNeg)) ((1 + o7)))))) i_p1_now a_p1_debt) H := hP
            have hD : va_D A (WX3_measure E q0 q0_members q0_steps q1 q1_snow q1_path q1_debt i_size i_least ((upd a_steps (v4 : Int32).toNatClampNeg ((mn ((a_steps (v4 : Int32).toNatClampNeg)) ((1 + o7)))))) i_p1_now a_p1_debt) := hD
            refine lv_iinc (v := (v4 + 1)) (lv' := [(4, .int ((v4 + 1))), (0, .ref q0), (1, .ref q1), (2, .int p2), (3, .int v3)]) hx hb dX3_measure_63 hl (k := 4) rfl rfl (by decide) rfl (fun ls hl => ?_)
            refine lv_goto (tgt := 29) hx hb dX3_measure_66 (by decide) ?_
            exact ih ((v4 + 1)) ((upd a_steps (v4 : Int32).toNatClampNeg ((mn ((a_steps (v4 : Int32).toNatClampNeg)) ((1 + o7)))))) _ hf hE _ _ _ (lv_sub hl [1, 2, 3, 4, 0] rfl) hP hD hS
      intro H locs ls hl hP hD hS
      rw [fX3_measure_L18] at hf
      refine lv_iload_n hx hb dX3_measure_18 rfl (lv_at hl 3 rfl) ?_
      refine lv_bipush (v := 7) hx hb dX3_measure_19 (by decide) ?_
      refine lv_icmp_ge (tgt := 75) hx hb dX3_measure_21 (by decide) (fun c4 => ?_) (fun c4 => ?_)
      · rw [if_pos c4] at hf
        have hf := Option.some.inj hf
        subst hf
        exact hE _ _ _ (lv_sub hl [] rfl) hP hD hS
      · rw [if_neg c4] at hf
        refine lv_iload_n hx hb dX3_measure_24 rfl (lv_at hl 2 rfl) ?_
        refine lv_iconst (v := 1) hx hb dX3_measure_25 (by decide) ?_
        refine lv_iadd hx hb dX3_measure_26 ?_
        refine lv_istore (lv' := [(4, .int ((p2 + 1))), (0, .ref q0), (1, .ref q1), (2, .int p2), (3, .int v3)]) hx hb dX3_measure_27 hl (by decide) rfl (fun ls hl => ?_)
        obtain ⟨o10, hg11, hf⟩ := bd_some hf
        refine L29 v3 FU ((p2 + 1)) a_steps o10 hg11 ?_ _ _ _ (lv_sub hl [1, 2, 3, 4, 0] rfl) hP hD hS
        intro H locs ls hl hP hD hS
        refine lv_iinc (v := (v3 + 1)) (lv' := [(3, .int ((v3 + 1))), (0, .ref q0), (1, .ref q1), (2, .int p2)]) hx hb dX3_measure_69 hl (k := 3) rfl rfl (by decide) rfl (fun ls hl => ?_)
        refine lv_goto (tgt := 18) hx hb dX3_measure_72 (by decide) ?_
        exact ih ((v3 + 1)) o10 _ hf hE _ _ _ (lv_sub hl [1, 2, 3, 0] rfl) hP hD hS
  intro H locs ls hl hP hD hS
  have hl : lv_has ls 5 [(0, .ref q0), (1, .ref q1), (2, .int p2)] := hl
  unfold fX3_measure at hf
  refine lv_aload_n hx hb dX3_measure_0 rfl (lv_at hl 0 rfl) ?_
  refine gf_RX3_15 C hP 0 rfl rfl dX3_measure_1 ?_
  refine lv_bipush (v := 99) hx hb dX3_measure_4 (by decide) ?_
  obtain ⟨o1, hg2, hf⟩ := bd_some hf
  refine k_SV (As := [.ref q0_steps, .int 99]) C K_RX3_33 (Nat.le_of_ble_eq_true rfl) (Nat.le_of_ble_eq_true rfl) (kJ7_fill_53178 l E q0_steps 7 a_steps 99 o1 hg2) [1] rfl rfl rfl  hP hD hS hA hl.1 (Nat.le_of_ble_eq_true rfl) rfl dX3_measure_6 (fun H locs hP hD hS => ?_)
  have hP : va_P E.1 classes (WX3_measure E q0 q0_members q0_steps q1 q1_snow q1_path q1_debt i_size i_least o1 i_p1_now a_p1_debt) H := hP
  have hD : va_D A (WX3_measure E q0 q0_members q0_steps q1 q1_snow q1_path q1_debt i_size i_least o1 i_p1_now a_p1_debt) := hD
  refine lv_aload_n hx hb dX3_measure_9 rfl (lv_at hl 0 rfl) ?_
  refine gf_RX3_15 C hP 0 rfl rfl dX3_measure_10 ?_
  refine lv_iload_n hx hb dX3_measure_13 rfl (lv_at hl 2 rfl) ?_
  refine lv_iconst (v := 0) hx hb dX3_measure_14 (by decide) ?_
  obtain ⟨g3, hf⟩ := gd_some hf
  refine va_iast hx hb C.2.2.2.2.2.1 hP hD hS 1 0 rfl rfl (vin_in g3) dX3_measure_15 (fun H locs hP hD hS => ?_)
  have hP : va_P E.1 classes (WX3_measure E q0 q0_members q0_steps q1 q1_snow q1_path q1_debt i_size i_least ((upd o1 (p2 : Int32).toNatClampNeg 0)) i_p1_now a_p1_debt) H := hP
  have hD : va_D A (WX3_measure E q0 q0_members q0_steps q1 q1_snow q1_path q1_debt i_size i_least ((upd o1 (p2 : Int32).toNatClampNeg 0)) i_p1_now a_p1_debt) := hD
  refine lv_iconst (v := 1) hx hb dX3_measure_16 (by decide) ?_
  refine lv_istore_n (lv' := [(3, .int 1), (0, .ref q0), (1, .ref q1), (2, .int p2)]) hx hb dX3_measure_17 rfl hl (by decide) rfl (fun ls hl => ?_)
  obtain ⟨o12, hg13, hf⟩ := bd_some hf
  refine L18 FU 1 ((upd o1 (p2 : Int32).toNatClampNeg 0)) o12 hg13 ?_ _ _ _ (lv_sub hl [1, 2, 3, 0] rfl) hP hD hS
  intro H locs ls hl hP hD hS
  have hj0 := Option.some.inj hf
  subst hj0
  exact hret _ _ _ _ dX3_measure_75 hP hD hS
theorem dX3_lengthFrom_0 : decode cX3_lengthFrom 0 = .ok (.bipush 99, 2) := by decide +kernel
theorem dX3_lengthFrom_2 : decode cX3_lengthFrom 2 = .ok (.istore_n 3, 1) := by decide +kernel
theorem dX3_lengthFrom_3 : decode cX3_lengthFrom 3 = .ok (.iload_n 2, 1) := by decide +kernel
theorem dX3_lengthFrom_4 : decode cX3_lengthFrom 4 = .ok (.iconst 1, 1) := by decide +kernel
theorem dX3_lengthFrom_5 : decode cX3_lengthFrom 5 = .ok (.iadd, 1) := by decide +kernel
theorem dX3_lengthFrom_6 : decode cX3_lengthFrom 6 = .ok (.istore 4, 2) := by decide +kernel
theorem dX3_lengthFrom_8 : decode cX3_lengthFrom 8 = .ok (.iload 4, 2) := by decide +kernel
theorem dX3_lengthFrom_10 : decode cX3_lengthFrom 10 = .ok (.bipush 7, 2) := by decide +kernel
theorem dX3_lengthFrom_12 : decode cX3_lengthFrom 12 = .ok (.if_icmp .ge 38, 3) := by decide +kernel
theorem dX3_lengthFrom_15 : decode cX3_lengthFrom 15 = .ok (.aload_n 1, 1) := by decide +kernel
theorem dX3_lengthFrom_16 : decode cX3_lengthFrom 16 = .ok (.getfield 49, 3) := by decide +kernel
theorem dX3_lengthFrom_19 : decode cX3_lengthFrom 19 = .ok (.iload_n 2, 1) := by decide +kernel
theorem dX3_lengthFrom_20 : decode cX3_lengthFrom 20 = .ok (.bipush 7, 2) := by decide +kernel
theorem dX3_lengthFrom_22 : decode cX3_lengthFrom 22 = .ok (.imul, 1) := by decide +kernel
theorem dX3_lengthFrom_23 : decode cX3_lengthFrom 23 = .ok (.iload 4, 2) := by decide +kernel
theorem dX3_lengthFrom_25 : decode cX3_lengthFrom 25 = .ok (.iadd, 1) := by decide +kernel
theorem dX3_lengthFrom_26 : decode cX3_lengthFrom 26 = .ok (.iaload, 1) := by decide +kernel
theorem dX3_lengthFrom_27 : decode cX3_lengthFrom 27 = .ok (.ifCond .le 17, 3) := by decide +kernel
theorem dX3_lengthFrom_30 : decode cX3_lengthFrom 30 = .ok (.iload_n 3, 1) := by decide +kernel
theorem dX3_lengthFrom_31 : decode cX3_lengthFrom 31 = .ok (.iconst 1, 1) := by decide +kernel
theorem dX3_lengthFrom_32 : decode cX3_lengthFrom 32 = .ok (.aload_n 0, 1) := by decide +kernel
theorem dX3_lengthFrom_33 : decode cX3_lengthFrom 33 = .ok (.getfield 15, 3) := by decide +kernel
theorem dX3_lengthFrom_36 : decode cX3_lengthFrom 36 = .ok (.iload 4, 2) := by decide +kernel
theorem dX3_lengthFrom_38 : decode cX3_lengthFrom 38 = .ok (.iaload, 1) := by decide +kernel
theorem dX3_lengthFrom_39 : decode cX3_lengthFrom 39 = .ok (.iadd, 1) := by decide +kernel
theorem dX3_lengthFrom_40 : decode cX3_lengthFrom 40 = .ok (.invokestatic 43, 3) := by decide +kernel
theorem dX3_lengthFrom_43 : decode cX3_lengthFrom 43 = .ok (.istore_n 3, 1) := by decide +kernel
theorem dX3_lengthFrom_44 : decode cX3_lengthFrom 44 = .ok (.iinc 4 1, 3) := by decide +kernel
theorem dX3_lengthFrom_47 : decode cX3_lengthFrom 47 = .ok (.goto (-39), 3) := by decide +kernel
theorem dX3_lengthFrom_50 : decode cX3_lengthFrom 50 = .ok (.iload_n 3, 1) := by decide +kernel
theorem dX3_lengthFrom_51 : decode cX3_lengthFrom 51 = .ok (.ireturn, 1) := by decide +kernel
def WX3_lengthFrom (E : ENV) (q0 : Nat) (q0_members : Nat) (q0_steps : Nat) (q1 : Nat) (q1_snow : Nat) (q1_path : Nat) (q1_debt : Nat) (i_size : Int32) (i_least : Int32) (a_steps : Nat → Int32) (i_p1_now : Int32) (a_p1_debt : Nat → Int32) : va_W := [(q0, .inr (3, [.ref q0_members, .ref q0_steps, .int i_size, .int i_least])), (q0_steps, .inl (E.2.1, 7, .inl a_steps)), (q1, .inr (5, [.ref q1_snow, .ref q1_path, .ref q1_debt, .int i_p1_now])), (q1_debt, .inl (E.2.1, 49, .inl a_p1_debt))]
set_option maxHeartbeats 4000000 in
set_option maxRecDepth 20000 in
theorem kX3_lengthFrom (l : Launch) (E : ENV) (q0 : Nat) (q0_members : Nat) (q0_steps : Nat) (q1 : Nat) (q1_snow : Nat) (q1_path : Nat) (q1_debt : Nat) (i_size : Int32) (i_least : Int32) (a_steps : Nat → Int32) (i_p1_now : Int32) (a_p1_debt : Nat → Int32) (p2 : Int32) (r9 : Int32) (hf : fX3_lengthFrom a_steps a_p1_debt p2 = some r9) : CI l E yX3_lengthFrom cX3_lengthFrom 5 (some .int) 1 [.ref q0, .ref q1, .int p2] (WX3_lengthFrom E q0 q0_members q0_steps q1 q1_snow q1_path q1_debt i_size i_least a_steps i_p1_now a_p1_debt) (WX3_lengthFrom E q0 q0_members q0_steps q1 q1_snow q1_path q1_debt i_size i_least a_steps i_p1_now a_p1_debt) r9 := by
  refine begI (by decide +kernel) (Nat.le_of_ble_eq_true rfl) ?_
  intro p e s m args below meth c A Q C hA hret
  have hx := C.1
  have hb := C.2.1
  have L8 : ∀ (n : Nat) (v3 : Int32) (v4 : Int32) (o : Int32), fX3_lengthFrom_L8 a_steps a_p1_debt p2 n v3 v4 = some o → (GO p l e 1 s m args below meth c Q E A 5 50 [] [(3, .int o)] (WX3_lengthFrom E q0 q0_members q0_steps q1 q1_snow q1_path q1_debt i_size i_least a_steps i_p1_now a_p1_debt)) → GO p l e 1 s m args below meth c Q E A 5 8 [] [(0, .ref q0), (1, .ref q1), (2, .int p2), (3, .int v3), (4, .int v4)] (WX3_lengthFrom E q0 q0_members q0_steps q1 q1_snow q1_path q1_debt i_size i_least a_steps i_p1_now a_p1_debt) := by
    intro n
    induction n with
    | zero =>
      intro v3 v4 o hf
      have hf : none = some o := hf
      cases hf
    | succ n ih =>
      intro v3 v4 o hf hE
      intro H locs ls hl hP hD hS
      rw [fX3_lengthFrom_L8] at hf
      refine lv_iload hx hb dX3_lengthFrom_8 (lv_at hl 4 rfl) ?_
      refine lv_bipush (v := 7) hx hb dX3_lengthFrom_10 (by decide) ?_
      refine lv_icmp_ge (tgt := 50) hx hb dX3_lengthFrom_12 (by decide) (fun c1 => ?_) (fun c1 => ?_)
      · rw [if_pos c1] at hf
        have hf := Option.some.inj hf
        subst hf
        exact hE _ _ _ (lv_sub hl [3] rfl) hP hD hS
      · rw [if_neg c1] at hf
        refine lv_aload_n hx hb dX3_lengthFrom_15 rfl (lv_at hl 1 rfl) ?_
        refine gf_RX3_49 C hP 2 rfl rfl dX3_lengthFrom_16 ?_
        refine lv_iload_n hx hb dX3_lengthFrom_19 rfl (lv_at hl 2 rfl) ?_
        refine lv_bipush (v := 7) hx hb dX3_lengthFrom_20 (by decide) ?_
        refine lv_imul hx hb dX3_lengthFrom_22 ?_
        refine lv_iload hx hb dX3_lengthFrom_23 (lv_at hl 4 rfl) ?_
        refine lv_iadd hx hb dX3_lengthFrom_25 ?_
        obtain ⟨g2, hf⟩ := gd_some hf
        refine va_iald hx hb C.2.2.2.2.2.1 hP 3 0 rfl rfl (vin_in g2) dX3_lengthFrom_26 ?_
        refine lv_if_le (tgt := 44) hx hb dX3_lengthFrom_27 (by decide) (fun c3 => ?_) (fun c3 => ?_)
        · rw [if_pos c3] at hf
          refine lv_iinc (v := (v4 + 1)) (lv' := [(4, .int ((v4 + 1))), (0, .ref q0), (1, .ref q1), (2, .int p2), (3, .int v3)]) hx hb dX3_lengthFrom_44 hl (k := 4) rfl rfl (by decide) rfl (fun ls hl => ?_)
          refine lv_goto (tgt := 8) hx hb dX3_lengthFrom_47 (by decide) ?_
          exact ih v3 ((v4 + 1)) _ hf hE _ _ _ (lv_sub hl [1, 2, 3, 4, 0] rfl) hP hD hS
        · rw [if_neg c3] at hf
          refine lv_iload_n hx hb dX3_lengthFrom_30 rfl (lv_at hl 3 rfl) ?_
          refine lv_iconst (v := 1) hx hb dX3_lengthFrom_31 (by decide) ?_
          refine lv_aload_n hx hb dX3_lengthFrom_32 rfl (lv_at hl 0 rfl) ?_
          refine gf_RX3_15 C hP 0 rfl rfl dX3_lengthFrom_33 ?_
          refine lv_iload hx hb dX3_lengthFrom_36 (lv_at hl 4 rfl) ?_
          obtain ⟨g4, hf⟩ := gd_some hf
          refine va_iald hx hb C.2.2.2.2.2.1 hP 1 0 rfl rfl (vin_in g4) dX3_lengthFrom_38 ?_
          refine lv_iadd hx hb dX3_lengthFrom_39 ?_
          refine r_min C q936 (Nat.le_of_ble_eq_true rfl) hl.1 (Nat.le_of_ble_eq_true rfl) dX3_lengthFrom_40 ?_
          refine lv_istore_n (lv' := [(3, .int ((mn v3 ((1 + ((a_steps (v4 : Int32).toNatClampNeg))))))), (0, .ref q0), (1, .ref q1), (2, .int p2), (4, .int v4)]) hx hb dX3_lengthFrom_43 rfl hl (by decide) rfl (fun ls hl => ?_)
          refine lv_iinc (v := (v4 + 1)) (lv' := [(4, .int ((v4 + 1))), (3, .int ((mn v3 ((1 + ((a_steps (v4 : Int32).toNatClampNeg))))))), (0, .ref q0), (1, .ref q1), (2, .int p2)]) hx hb dX3_lengthFrom_44 hl (k := 4) rfl rfl (by decide) rfl (fun ls hl => ?_)
          refine lv_goto (tgt := 8) hx hb dX3_lengthFrom_47 (by decide) ?_
          exact ih ((mn v3 ((1 + ((a_steps (v4 : Int32).toNatClampNeg)))))) ((v4 + 1)) _ hf hE _ _ _ (lv_sub hl [2, 3, 4, 1, 0] rfl) hP hD hS
  intro H locs ls hl hP hD hS
  have hl : lv_has ls 5 [(0, .ref q0), (1, .ref q1), (2, .int p2)] := hl
  unfold fX3_lengthFrom at hf
  refine lv_bipush (v := 99) hx hb dX3_lengthFrom_0 (by decide) ?_
  refine lv_istore_n (lv' := [(3, .int 99), (0, .ref q0), (1, .ref q1), (2, .int p2)]) hx hb dX3_lengthFrom_2 rfl hl (by decide) rfl (fun ls hl => ?_)
  refine lv_iload_n hx hb dX3_lengthFrom_3 rfl (lv_at hl 3 rfl) ?_
  refine lv_iconst (v := 1) hx hb dX3_lengthFrom_4 (by decide) ?_
  refine lv_iadd hx hb dX3_lengthFrom_5 ?_
  refine lv_istore (lv' := [(4, .int ((p2 + 1))), (3, .int 99), (0, .ref q0), (1, .ref q1), (2, .int p2)]) hx hb dX3_lengthFrom_6 hl (by decide) rfl (fun ls hl => ?_)
  obtain ⟨o5, hg6, hf⟩ := bd_some hf
  refine L8 FU 99 ((p2 + 1)) o5 hg6 ?_ _ _ _ (lv_sub hl [2, 3, 4, 1, 0] rfl) hP hD hS
  intro H locs ls hl hP hD hS
  refine lv_iload_n hx hb dX3_lengthFrom_50 rfl (lv_at hl 0 rfl) ?_
  have hj0 := Option.some.inj hf
  subst hj0
  exact hret _ _ _ _ dX3_lengthFrom_51 rfl hP hD hS
theorem dX3_nextOf_0 : decode cX3_nextOf 0 = .ok (.iload_n 3, 1) := by decide +kernel
theorem dX3_nextOf_1 : decode cX3_nextOf 1 = .ok (.istore 5, 2) := by decide +kernel
theorem dX3_nextOf_3 : decode cX3_nextOf 3 = .ok (.iload 5, 2) := by decide +kernel
theorem dX3_nextOf_5 : decode cX3_nextOf 5 = .ok (.bipush 7, 2) := by decide +kernel
theorem dX3_nextOf_7 : decode cX3_nextOf 7 = .ok (.if_icmp .ge 39, 3) := by decide +kernel
theorem dX3_nextOf_10 : decode cX3_nextOf 10 = .ok (.aload_n 1, 1) := by decide +kernel
theorem dX3_nextOf_11 : decode cX3_nextOf 11 = .ok (.getfield 49, 3) := by decide +kernel
theorem dX3_nextOf_14 : decode cX3_nextOf 14 = .ok (.iload_n 2, 1) := by decide +kernel
theorem dX3_nextOf_15 : decode cX3_nextOf 15 = .ok (.bipush 7, 2) := by decide +kernel
theorem dX3_nextOf_17 : decode cX3_nextOf 17 = .ok (.imul, 1) := by decide +kernel
theorem dX3_nextOf_18 : decode cX3_nextOf 18 = .ok (.iload 5, 2) := by decide +kernel
theorem dX3_nextOf_20 : decode cX3_nextOf 20 = .ok (.iadd, 1) := by decide +kernel
theorem dX3_nextOf_21 : decode cX3_nextOf 21 = .ok (.iaload, 1) := by decide +kernel
theorem dX3_nextOf_22 : decode cX3_nextOf 22 = .ok (.ifCond .le 18, 3) := by decide +kernel
theorem dX3_nextOf_25 : decode cX3_nextOf 25 = .ok (.aload_n 0, 1) := by decide +kernel
theorem dX3_nextOf_26 : decode cX3_nextOf 26 = .ok (.getfield 15, 3) := by decide +kernel
theorem dX3_nextOf_29 : decode cX3_nextOf 29 = .ok (.iload 5, 2) := by decide +kernel
theorem dX3_nextOf_31 : decode cX3_nextOf 31 = .ok (.iaload, 1) := by decide +kernel
theorem dX3_nextOf_32 : decode cX3_nextOf 32 = .ok (.iload 4, 2) := by decide +kernel
theorem dX3_nextOf_34 : decode cX3_nextOf 34 = .ok (.if_icmp .ne 6, 3) := by decide +kernel
theorem dX3_nextOf_37 : decode cX3_nextOf 37 = .ok (.iload 5, 2) := by decide +kernel
theorem dX3_nextOf_39 : decode cX3_nextOf 39 = .ok (.ireturn, 1) := by decide +kernel
theorem dX3_nextOf_40 : decode cX3_nextOf 40 = .ok (.iinc 5 1, 3) := by decide +kernel
theorem dX3_nextOf_43 : decode cX3_nextOf 43 = .ok (.goto (-40), 3) := by decide +kernel
theorem dX3_nextOf_46 : decode cX3_nextOf 46 = .ok (.iload_n 3, 1) := by decide +kernel
theorem dX3_nextOf_47 : decode cX3_nextOf 47 = .ok (.ireturn, 1) := by decide +kernel
def WX3_nextOf (E : ENV) (q0 : Nat) (q0_members : Nat) (q0_steps : Nat) (q1 : Nat) (q1_snow : Nat) (q1_path : Nat) (q1_debt : Nat) (i_size : Int32) (i_least : Int32) (a_steps : Nat → Int32) (i_p1_now : Int32) (a_p1_debt : Nat → Int32) : va_W := [(q0, .inr (3, [.ref q0_members, .ref q0_steps, .int i_size, .int i_least])), (q0_steps, .inl (E.2.1, 7, .inl a_steps)), (q1, .inr (5, [.ref q1_snow, .ref q1_path, .ref q1_debt, .int i_p1_now])), (q1_debt, .inl (E.2.1, 49, .inl a_p1_debt))]
set_option maxHeartbeats 4000000 in
set_option maxRecDepth 20000 in
theorem kX3_nextOf (l : Launch) (E : ENV) (q0 : Nat) (q0_members : Nat) (q0_steps : Nat) (q1 : Nat) (q1_snow : Nat) (q1_path : Nat) (q1_debt : Nat) (i_size : Int32) (i_least : Int32) (a_steps : Nat → Int32) (i_p1_now : Int32) (a_p1_debt : Nat → Int32) (p2 : Int32) (p3 : Int32) (p4 : Int32) (r9 : Int32) (hf : fX3_nextOf a_steps a_p1_debt p2 p3 p4 = some r9) : CI l E yX3_nextOf cX3_nextOf 6 (some .int) 0 [.ref q0, .ref q1, .int p2, .int p3, .int p4] (WX3_nextOf E q0 q0_members q0_steps q1 q1_snow q1_path q1_debt i_size i_least a_steps i_p1_now a_p1_debt) (WX3_nextOf E q0 q0_members q0_steps q1 q1_snow q1_path q1_debt i_size i_least a_steps i_p1_now a_p1_debt) r9 := by
  refine begI (by decide +kernel) (Nat.le_of_ble_eq_true rfl) ?_
  intro p e s m args below meth c A Q C hA hret
  have hx := C.1
  have hb := C.2.1
  have L3 : ∀ (n : Nat) (v5 : Int32) (o : (Unit) ⊕ (Int32)), fX3_nextOf_L3 a_steps a_p1_debt p2 p4 n v5 = some o → (∀ x, o = Sum.inl x → GO p l e 0 s m args below meth c Q E A 6 46 [] [(3, .int p3)] (WX3_nextOf E q0 q0_members q0_steps q1 q1_snow q1_path q1_debt i_size i_least a_steps i_p1_now a_p1_debt)) → (∀ x, o = Sum.inr x → x = r9) → GO p l e 0 s m args below meth c Q E A 6 3 [] [(0, .ref q0), (1, .ref q1), (2, .int p2), (3, .int p3), (4, .int p4), (5, .int v5)] (WX3_nextOf E q0 q0_members q0_steps q1 q1_snow q1_path q1_debt i_size i_least a_steps i_p1_now a_p1_debt) := by
    intro n
    induction n with
    | zero =>
      intro v5 o hf
      have hf : none = some o := hf
      cases hf
    | succ n ih =>
      intro v5 o hf hE hR
      intro H locs ls hl hP hD hS
      rw [fX3_nextOf_L3] at hf
      refine lv_iload hx hb dX3_nextOf_3 (lv_at hl 5 rfl) ?_
      refine lv_bipush (v := 7) hx hb dX3_nextOf_5 (by decide) ?_
      refine lv_icmp_ge (tgt := 46) hx hb dX3_nextOf_7 (by decide) (fun c1 => ?_) (fun c1 => ?_)
      · rw [if_pos c1] at hf
        have hf := Option.some.inj hf
        subst hf
        exact (hE _ rfl) _ _ _ (lv_sub hl [3] rfl) hP hD hS
      · rw [if_neg c1] at hf
        refine lv_aload_n hx hb dX3_nextOf_10 rfl (lv_at hl 1 rfl) ?_
        refine gf_RX3_49 C hP 2 rfl rfl dX3_nextOf_11 ?_
        refine lv_iload_n hx hb dX3_nextOf_14 rfl (lv_at hl 2 rfl) ?_
        refine lv_bipush (v := 7) hx hb dX3_nextOf_15 (by decide) ?_
        refine lv_imul hx hb dX3_nextOf_17 ?_
        refine lv_iload hx hb dX3_nextOf_18 (lv_at hl 5 rfl) ?_
        refine lv_iadd hx hb dX3_nextOf_20 ?_
        obtain ⟨g2, hf⟩ := gd_some hf
        refine va_iald hx hb C.2.2.2.2.2.1 hP 3 0 rfl rfl (vin_in g2) dX3_nextOf_21 ?_
        refine lv_if_le (tgt := 40) hx hb dX3_nextOf_22 (by decide) (fun c3 => ?_) (fun c3 => ?_)
        · rw [if_pos c3] at hf
          refine lv_iinc (v := (v5 + 1)) (lv' := [(5, .int ((v5 + 1))), (0, .ref q0), (1, .ref q1), (2, .int p2), (3, .int p3), (4, .int p4)]) hx hb dX3_nextOf_40 hl (k := 5) rfl rfl (by decide) rfl (fun ls hl => ?_)
          refine lv_goto (tgt := 3) hx hb dX3_nextOf_43 (by decide) ?_
          exact ih ((v5 + 1)) _ hf hE hR _ _ _ (lv_sub hl [1, 2, 3, 4, 5, 0] rfl) hP hD hS
        · rw [if_neg c3] at hf
          refine lv_aload_n hx hb dX3_nextOf_25 rfl (lv_at hl 0 rfl) ?_
          refine gf_RX3_15 C hP 0 rfl rfl dX3_nextOf_26 ?_
          refine lv_iload hx hb dX3_nextOf_29 (lv_at hl 5 rfl) ?_
          obtain ⟨g4, hf⟩ := gd_some hf
          refine va_iald hx hb C.2.2.2.2.2.1 hP 1 0 rfl rfl (vin_in g4) dX3_nextOf_31 ?_
          refine lv_iload hx hb dX3_nextOf_32 (lv_at hl 4 rfl) ?_
          refine lv_icmp_ne (tgt := 40) hx hb dX3_nextOf_34 (by decide) (fun c5 => ?_) (fun c5 => ?_)
          · rw [if_neg c5] at hf
            refine lv_iinc (v := (v5 + 1)) (lv' := [(5, .int ((v5 + 1))), (0, .ref q0), (1, .ref q1), (2, .int p2), (3, .int p3), (4, .int p4)]) hx hb dX3_nextOf_40 hl (k := 5) rfl rfl (by decide) rfl (fun ls hl => ?_)
            refine lv_goto (tgt := 3) hx hb dX3_nextOf_43 (by decide) ?_
            exact ih ((v5 + 1)) _ hf hE hR _ _ _ (lv_sub hl [1, 2, 3, 4, 5, 0] rfl) hP hD hS
          · rw [if_pos c5] at hf
            refine lv_iload hx hb dX3_nextOf_37 (lv_at hl 5 rfl) ?_
            have hf := Option.some.inj hf
            subst hf
            have hj0 := hR _ rfl
            subst hj0
            exact hret _ _ _ _ dX3_nextOf_39 rfl hP hD hS
  intro H locs ls hl hP hD hS
  have hl : lv_has ls 6 [(0, .ref q0), (1, .ref q1), (2, .int p2), (3, .int p3), (4, .int p4)] := hl
  unfold fX3_nextOf at hf
  refine lv_iload_n hx hb dX3_nextOf_0 rfl (lv_at hl 3 rfl) ?_
  refine lv_istore (lv' := [(5, .int p3), (0, .ref q0), (1, .ref q1), (2, .int p2), (3, .int p3), (4, .int p4)]) hx hb dX3_nextOf_1 hl (by decide) rfl (fun ls hl => ?_)
  obtain ⟨o6, hg7, hf⟩ := bd_some hf
  refine L3 FU p3 o6 hg7 ?_ ?_ _ _ _ (lv_sub hl [1, 2, 3, 4, 5, 0] rfl) hP hD hS
  · intro x8 hxx
    rw [hxx, Sum.elim_inl] at hf
    intro H locs ls hl hP hD hS
    refine lv_iload_n hx hb dX3_nextOf_46 rfl (lv_at hl 0 rfl) ?_
    have hj0 := Option.some.inj hf
    subst hj0
    exact hret _ _ _ _ dX3_nextOf_47 rfl hP hD hS
  · intro x hxx
    rw [hxx, Sum.elim_inr] at hf
    exact Option.some.inj hf
theorem q369 : Cond.fieldLink RX3 9 "SnowForSummer$Ring" "members" "[I" ∈ Tg := Tg_mem 369 (by decide +kernel) (by decide +kernel)
theorem gf_RX3_9 {p : Program} {l : Launch} {e : Env} {R : Room} {s : State} {m : MethodId} {args : Array Value} {below : List Frame} {meth : Method} {c : Code} {H : Heap} {locs : List Loc} {cells slots : Nat} {Q : State → Prop} {E : ENV} {cc : ByteArray} {n : Nat} {r : Option FieldType} {pc : Nat} {ls : Array Slot} {rest : List Value} {a : Nat} {ws : va_W} {nm ds : String} {fs : List Value} {A : Nat → Prop} {v : Value} (C : Cx E A ⟨RX3, nm, ds⟩ cc n r p s m args meth c) (hP : va_P E.1 classes ws H) (q0 : Nat) (he : ws[q0]? = some (a, .inr (3, fs))) (hv : fs[0]? = some v) (hdg : decode cc pc = .ok (.getfield 9, 3))
    (kk : W p l e R s m args below meth c H locs cells slots Q (F0 m (pc + 3) ls (v :: rest))) : W p l e R s m args below meth c H locs cells slots Q (F0 m pc ls (.ref a :: rest)) :=
  va_get (C := RX3) (T := TX3) (N := 4) (Ts := wl ⟨RX3, nm, ds⟩ cc n r) C.1 C.2.1 C.2.2.2.2.1 (fun w h => List.mem_cons_of_mem _ (inT3 w h)) C.2.2.2.1 C.2.2.2.2.2.1 hP q0 he rfl 0 (by decide) (C.2.2.2.2.1 _ (List.mem_cons_of_mem _ q369)) (fun _ h9 => h9) hv hdg kk
theorem q374 : Cond.fieldLink RX3 54 "SnowForSummer$Ring" "least" "I" ∈ Tg := Tg_mem 374 (by decide +kernel) (by decide +kernel)
theorem pf_RX3_54 {p : Program} {l : Launch} {e : Env} {R : Room} {s : State} {m : MethodId} {args : Array Value} {below : List Frame} {meth : Method} {c : Code} {H : Heap} {locs : List Loc} {cells slots : Nat} {Q : State → Prop} {E : ENV} {cc : ByteArray} {n : Nat} {r : Option FieldType} {pc : Nat} {ls : Array Slot} {rest : List Value} {a : Nat} {ws : va_W} {nm ds : String} {fs : List Value} {A : Nat → Prop} {H0 : Heap} {x : Int32} (C : Cx E A ⟨RX3, nm, ds⟩ cc n r p s m args meth c) (hP : va_P E.1 classes ws H) (hD : va_D A ws) (hS : va_S A H0 H locs) (q0 : Nat) (he : ws[q0]? = some (a, .inr (3, fs))) (hl : 3 < fs.length) (hdg : decode cc pc = .ok (.putfield 54, 3))
    (kk : ∀ (H1 : Heap) (locs1 : List Loc), va_P E.1 classes (ws.set q0 (a, .inr (3, fs.set 3 (.int x)))) H1 → va_D A (ws.set q0 (a, .inr (3, fs.set 3 (.int x)))) → va_S A H0 H1 locs1 → W p l e R s m args below meth c H1 locs1 cells slots Q (F0 m (pc + 3) ls rest)) : W p l e R s m args below meth c H locs cells slots Q (F0 m pc ls (.int x :: .ref a :: rest)) :=
  va_put (C := RX3) (T := TX3) (N := 4) (ty := .int) (Ts := wl ⟨RX3, nm, ds⟩ cc n r) C.1 C.2.1 C.2.2.2.2.1 (fun w h => List.mem_cons_of_mem _ (inT3 w h)) tyX3 tyX3_ok nmX3 C.2.2.2.1 C.2.2.2.2.2.1 hP hD hS q0 he rfl 3 (by decide) (C.2.2.2.2.1 _ (List.mem_cons_of_mem _ q374)) (fun _ h9 => h9) rfl (by decide +kernel) rfl rfl hl hdg kk
theorem q372 : Cond.fieldLink RX3 18 "SnowForSummer$Ring" "size" "I" ∈ Tg := Tg_mem 372 (by decide +kernel) (by decide +kernel)
theorem gf_RX3_18 {p : Program} {l : Launch} {e : Env} {R : Room} {s : State} {m : MethodId} {args : Array Value} {below : List Frame} {meth : Method} {c : Code} {H : Heap} {locs : List Loc} {cells slots : Nat} {Q : State → Prop} {E : ENV} {cc : ByteArray} {n : Nat} {r : Option FieldType} {pc : Nat} {ls : Array Slot} {rest : List Value} {a : Nat} {ws : va_W} {nm ds : String} {fs : List Value} {A : Nat → Prop} {v : Value} (C : Cx E A ⟨RX3, nm, ds⟩ cc n r p s m args meth c) (hP : va_P E.1 classes ws H) (q0 : Nat) (he : ws[q0]? = some (a, .inr (3, fs))) (hv : fs[2]? = some v) (hdg : decode cc pc = .ok (.getfield 18, 3))
    (kk : W p l e R s m args below meth c H locs cells slots Q (F0 m (pc + 3) ls (v :: rest))) : W p l e R s m args below meth c H locs cells slots Q (F0 m pc ls (.ref a :: rest)) :=
  va_get (C := RX3) (T := TX3) (N := 4) (Ts := wl ⟨RX3, nm, ds⟩ cc n r) C.1 C.2.1 C.2.2.2.2.1 (fun w h => List.mem_cons_of_mem _ (inT3 w h)) C.2.2.2.1 C.2.2.2.2.2.1 hP q0 he rfl 2 (by decide) (C.2.2.2.2.1 _ (List.mem_cons_of_mem _ q372)) (fun _ h9 => h9) hv hdg kk
theorem K_RX3_57 : KV RX3 57 yX3_nextOf cX3_nextOf 6 (some .int) 4 := ⟨Tg_mem 948 (by decide +kernel) (by decide +kernel), Tg_mem 100 (by decide +kernel) (by decide +kernel), Tg_mem 945 (by decide +kernel) (by decide +kernel), Tg_mem 947 (by decide +kernel) (by decide +kernel), Tg_mem 26 (by decide +kernel) (by decide +kernel), by decide +kernel⟩
theorem gf_RX3_54 {p : Program} {l : Launch} {e : Env} {R : Room} {s : State} {m : MethodId} {args : Array Value} {below : List Frame} {meth : Method} {c : Code} {H : Heap} {locs : List Loc} {cells slots : Nat} {Q : State → Prop} {E : ENV} {cc : ByteArray} {n : Nat} {r : Option FieldType} {pc : Nat} {ls : Array Slot} {rest : List Value} {a : Nat} {ws : va_W} {nm ds : String} {fs : List Value} {A : Nat → Prop} {v : Value} (C : Cx E A ⟨RX3, nm, ds⟩ cc n r p s m args meth c) (hP : va_P E.1 classes ws H) (q0 : Nat) (he : ws[q0]? = some (a, .inr (3, fs))) (hv : fs[3]? = some v) (hdg : decode cc pc = .ok (.getfield 54, 3))
    (kk : W p l e R s m args below meth c H locs cells slots Q (F0 m (pc + 3) ls (v :: rest))) : W p l e R s m args below meth c H locs cells slots Q (F0 m pc ls (.ref a :: rest)) :=
  va_get (C := RX3) (T := TX3) (N := 4) (Ts := wl ⟨RX3, nm, ds⟩ cc n r) C.1 C.2.1 C.2.2.2.2.1 (fun w h => List.mem_cons_of_mem _ (inT3 w h)) C.2.2.2.1 C.2.2.2.2.2.1 hP q0 he rfl 3 (by decide) (C.2.2.2.2.1 _ (List.mem_cons_of_mem _ q374)) (fun _ h9 => h9) hv hdg kk
theorem dX3_lay_0 : decode cX3_lay 0 = .ok (.iload_n 2, 1) := by decide +kernel
theorem dX3_lay_1 : decode cX3_lay 1 = .ok (.istore_n 3, 1) := by decide +kernel
theorem dX3_lay_2 : decode cX3_lay 2 = .ok (.aload_n 0, 1) := by decide +kernel
theorem dX3_lay_3 : decode cX3_lay 3 = .ok (.getfield 9, 3) := by decide +kernel
theorem dX3_lay_6 : decode cX3_lay 6 = .ok (.iconst 0, 1) := by decide +kernel
theorem dX3_lay_7 : decode cX3_lay 7 = .ok (.iload_n 2, 1) := by decide +kernel
theorem dX3_lay_8 : decode cX3_lay 8 = .ok (.iastore, 1) := by decide +kernel
theorem dX3_lay_9 : decode cX3_lay 9 = .ok (.aload_n 0, 1) := by decide +kernel
theorem dX3_lay_10 : decode cX3_lay 10 = .ok (.sipush 9999, 3) := by decide +kernel
theorem dX3_lay_13 : decode cX3_lay 13 = .ok (.putfield 54, 3) := by decide +kernel
theorem dX3_lay_16 : decode cX3_lay 16 = .ok (.iconst 1, 1) := by decide +kernel
theorem dX3_lay_17 : decode cX3_lay 17 = .ok (.istore 4, 2) := by decide +kernel
theorem dX3_lay_19 : decode cX3_lay 19 = .ok (.iload 4, 2) := by decide +kernel
theorem dX3_lay_21 : decode cX3_lay 21 = .ok (.aload_n 0, 1) := by decide +kernel
theorem dX3_lay_22 : decode cX3_lay 22 = .ok (.getfield 18, 3) := by decide +kernel
theorem dX3_lay_25 : decode cX3_lay 25 = .ok (.if_icmp .gt 83, 3) := by decide +kernel
theorem dX3_lay_28 : decode cX3_lay 28 = .ok (.iload 4, 2) := by decide +kernel
theorem dX3_lay_30 : decode cX3_lay 30 = .ok (.bipush 7, 2) := by decide +kernel
theorem dX3_lay_32 : decode cX3_lay 32 = .ok (.if_icmp .gt 76, 3) := by decide +kernel
theorem dX3_lay_35 : decode cX3_lay 35 = .ok (.aload_n 0, 1) := by decide +kernel
theorem dX3_lay_36 : decode cX3_lay 36 = .ok (.aload_n 1, 1) := by decide +kernel
theorem dX3_lay_37 : decode cX3_lay 37 = .ok (.iload_n 3, 1) := by decide +kernel
theorem dX3_lay_38 : decode cX3_lay 38 = .ok (.iload_n 2, 1) := by decide +kernel
theorem dX3_lay_39 : decode cX3_lay 39 = .ok (.aload_n 0, 1) := by decide +kernel
theorem dX3_lay_40 : decode cX3_lay 40 = .ok (.getfield 18, 3) := by decide +kernel
theorem dX3_lay_43 : decode cX3_lay 43 = .ok (.iload 4, 2) := by decide +kernel
theorem dX3_lay_45 : decode cX3_lay 45 = .ok (.isub, 1) := by decide +kernel
theorem dX3_lay_46 : decode cX3_lay 46 = .ok (.invokevirtual 57, 3) := by decide +kernel
theorem dX3_lay_49 : decode cX3_lay 49 = .ok (.istore 5, 2) := by decide +kernel
theorem dX3_lay_51 : decode cX3_lay 51 = .ok (.aload_n 0, 1) := by decide +kernel
theorem dX3_lay_52 : decode cX3_lay 52 = .ok (.aload_n 0, 1) := by decide +kernel
theorem dX3_lay_53 : decode cX3_lay 53 = .ok (.getfield 54, 3) := by decide +kernel
theorem dX3_lay_56 : decode cX3_lay 56 = .ok (.aload_n 1, 1) := by decide +kernel
theorem dX3_lay_57 : decode cX3_lay 57 = .ok (.getfield 49, 3) := by decide +kernel
theorem dX3_lay_60 : decode cX3_lay 60 = .ok (.iload_n 3, 1) := by decide +kernel
theorem dX3_lay_61 : decode cX3_lay 61 = .ok (.bipush 7, 2) := by decide +kernel
theorem dX3_lay_63 : decode cX3_lay 63 = .ok (.imul, 1) := by decide +kernel
theorem dX3_lay_64 : decode cX3_lay 64 = .ok (.iload 5, 2) := by decide +kernel
theorem dX3_lay_66 : decode cX3_lay 66 = .ok (.iadd, 1) := by decide +kernel
theorem dX3_lay_67 : decode cX3_lay 67 = .ok (.iaload, 1) := by decide +kernel
theorem dX3_lay_68 : decode cX3_lay 68 = .ok (.invokestatic 43, 3) := by decide +kernel
theorem dX3_lay_71 : decode cX3_lay 71 = .ok (.putfield 54, 3) := by decide +kernel
theorem dX3_lay_74 : decode cX3_lay 74 = .ok (.iload 4, 2) := by decide +kernel
theorem dX3_lay_76 : decode cX3_lay 76 = .ok (.aload_n 0, 1) := by decide +kernel
theorem dX3_lay_77 : decode cX3_lay 77 = .ok (.getfield 18, 3) := by decide +kernel
theorem dX3_lay_80 : decode cX3_lay 80 = .ok (.if_icmp .ge 19, 3) := by decide +kernel
theorem dX3_lay_83 : decode cX3_lay 83 = .ok (.iload 4, 2) := by decide +kernel
theorem dX3_lay_85 : decode cX3_lay 85 = .ok (.bipush 7, 2) := by decide +kernel
theorem dX3_lay_87 : decode cX3_lay 87 = .ok (.if_icmp .ge 12, 3) := by decide +kernel
theorem dX3_lay_90 : decode cX3_lay 90 = .ok (.aload_n 0, 1) := by decide +kernel
theorem dX3_lay_91 : decode cX3_lay 91 = .ok (.getfield 9, 3) := by decide +kernel
theorem dX3_lay_94 : decode cX3_lay 94 = .ok (.iload 4, 2) := by decide +kernel
theorem dX3_lay_96 : decode cX3_lay 96 = .ok (.iload 5, 2) := by decide +kernel
theorem dX3_lay_98 : decode cX3_lay 98 = .ok (.iastore, 1) := by decide +kernel
theorem dX3_lay_99 : decode cX3_lay 99 = .ok (.iload 5, 2) := by decide +kernel
theorem dX3_lay_101 : decode cX3_lay 101 = .ok (.istore_n 3, 1) := by decide +kernel
theorem dX3_lay_102 : decode cX3_lay 102 = .ok (.iinc 4 1, 3) := by decide +kernel
theorem dX3_lay_105 : decode cX3_lay 105 = .ok (.goto (-86), 3) := by decide +kernel
theorem dX3_lay_108 : decode cX3_lay 108 = .ok (.return_, 1) := by decide +kernel
def WX3_lay (E : ENV) (q0 : Nat) (q0_members : Nat) (q0_steps : Nat) (q1 : Nat) (q1_snow : Nat) (q1_path : Nat) (q1_debt : Nat) (i_size : Int32) (i_least : Int32) (a_members : Nat → Int32) (a_steps : Nat → Int32) (i_p1_now : Int32) (a_p1_debt : Nat → Int32) : va_W := [(q0, .inr (3, [.ref q0_members, .ref q0_steps, .int i_size, .int i_least])), (q0_members, .inl (E.2.1, 7, .inl a_members)), (q0_steps, .inl (E.2.1, 7, .inl a_steps)), (q1, .inr (5, [.ref q1_snow, .ref q1_path, .ref q1_debt, .int i_p1_now])), (q1_debt, .inl (E.2.1, 49, .inl a_p1_debt))]
set_option maxHeartbeats 4000000 in
set_option maxRecDepth 20000 in
theorem kX3_lay (l : Launch) (E : ENV) (q0 : Nat) (q0_members : Nat) (q0_steps : Nat) (q1 : Nat) (q1_snow : Nat) (q1_path : Nat) (q1_debt : Nat) (i_size : Int32) (i_least : Int32) (a_members : Nat → Int32) (a_steps : Nat → Int32) (i_p1_now : Int32) (a_p1_debt : Nat → Int32) (p2 : Int32) (i_least9 : Int32) (a_members9 : Nat → Int32) (hf : fX3_lay i_size i_least a_members a_steps a_p1_debt p2 = some (i_least9, a_members9)) : CV l E yX3_lay cX3_lay 6 1 [.ref q0, .ref q1, .int p2] (WX3_lay E q0 q0_members q0_steps q1 q1_snow q1_path q1_debt i_size i_least a_members a_steps i_p1_now a_p1_debt) (WX3_lay E q0 q0_members q0_steps q1 q1_snow q1_path q1_debt i_size i_least9 a_members9 a_steps i_p1_now a_p1_debt) := by
  refine begV (by decide +kernel) (Nat.le_of_ble_eq_true rfl) ?_
  intro p e s m args below meth c A Q C hA hret
  have hx := C.1
  have hb := C.2.1
  have L19 : ∀ (n : Nat) (v3 : Int32) (v4 : Int32) (i_least : Int32) (a_members : Nat → Int32) (o : Int32 × (Nat → Int32)), fX3_lay_L19 i_size a_steps a_p1_debt p2 n v3 v4 i_least a_members = some o → (GO p l e 1 s m args below meth c Q E A 6 108 [] [] (WX3_lay E q0 q0_members q0_steps q1 q1_snow q1_path q1_debt i_size o.1 o.2 a_steps i_p1_now a_p1_debt)) → GO p l e 1 s m args below meth c Q E A 6 19 [] [(0, .ref q0), (1, .ref q1), (2, .int p2), (3, .int v3), (4, .int v4)] (WX3_lay E q0 q0_members q0_steps q1 q1_snow q1_path q1_debt i_size i_least a_members a_steps i_p1_now a_p1_debt) := by
    intro n
    induction n with
    | zero =>
      intro v3 v4 i_least a_members o hf
      have hf : none = some o := hf
      cases hf
    | succ n ih =>
      intro v3 v4 i_least a_members o hf hE
      intro H locs ls hl hP hD hS
      rw [fX3_lay_L19] at hf
      refine lv_iload hx hb dX3_lay_19 (lv_at hl 4 rfl) ?_
      refine lv_aload_n hx hb dX3_lay_21 rfl (lv_at hl 0 rfl) ?_
      refine gf_RX3_18 C hP 0 rfl rfl dX3_lay_22 ?_
      refine lv_icmp_gt (tgt := 108) hx hb dX3_lay_25 (by decide) (fun c2 => ?_) (fun c2 => ?_)
      · rw [if_pos c2] at hf
        have hf := Option.some.inj hf
        subst hf
        exact hE _ _ _ (lv_sub hl [] rfl) hP hD hS
      · rw [if_neg c2] at hf
        refine lv_iload hx hb dX3_lay_28 (lv_at hl 4 rfl) ?_
        refine lv_bipush (v := 7) hx hb dX3_lay_30 (by decide) ?_
        refine lv_icmp_gt (tgt := 108) hx hb dX3_lay_32 (by decide) (fun c3 => ?_) (fun c3 => ?_)
        · rw [if_pos c3] at hf
          have hf := Option.some.inj hf
          subst hf
          exact hE _ _ _ (lv_sub hl [] rfl) hP hD hS
        · rw [if_neg c3] at hf
          refine lv_aload_n hx hb dX3_lay_35 rfl (lv_at hl 0 rfl) ?_
          refine lv_aload_n hx hb dX3_lay_36 rfl (lv_at hl 1 rfl) ?_
          refine lv_iload_n hx hb dX3_lay_37 rfl (lv_at hl 3 rfl) ?_
          refine lv_iload_n hx hb dX3_lay_38 rfl (lv_at hl 2 rfl) ?_
          refine lv_aload_n hx hb dX3_lay_39 rfl (lv_at hl 0 rfl) ?_
          refine gf_RX3_18 C hP 0 rfl rfl dX3_lay_40 ?_
          refine lv_iload hx hb dX3_lay_43 (lv_at hl 4 rfl) ?_
          refine lv_isub hx hb dX3_lay_45 ?_
          obtain ⟨o4, hg5, hf⟩ := bd_some hf
          refine k_VI (As := [.ref q1, .int v3, .int p2, .int ((i_size - v4))]) C K_RX3_57 (Nat.le_of_ble_eq_true rfl) (Nat.le_of_ble_eq_true rfl) (kX3_nextOf l E q0 q0_members q0_steps q1 q1_snow q1_path q1_debt i_size i_least a_steps i_p1_now a_p1_debt v3 p2 ((i_size - v4)) o4 hg5) [0, 2, 3, 4] rfl rfl rfl (ci := 3) rfl rfl (q0 := 0) rfl hP hD hS hA hl.1 (Nat.le_of_ble_eq_true rfl) rfl dX3_lay_46 (fun H locs hP hD hS => ?_)
          have hP : va_P E.1 classes (WX3_lay E q0 q0_members q0_steps q1 q1_snow q1_path q1_debt i_size i_least a_members a_steps i_p1_now a_p1_debt) H := hP
          have hD : va_D A (WX3_lay E q0 q0_members q0_steps q1 q1_snow q1_path q1_debt i_size i_least a_members a_steps i_p1_now a_p1_debt) := hD
          refine lv_istore (lv' := [(5, .int o4), (0, .ref q0), (1, .ref q1), (2, .int p2), (3, .int v3), (4, .int v4)]) hx hb dX3_lay_49 hl (by decide) rfl (fun ls hl => ?_)
          refine lv_aload_n hx hb dX3_lay_51 rfl (lv_at hl 1 rfl) ?_
          refine lv_aload_n hx hb dX3_lay_52 rfl (lv_at hl 1 rfl) ?_
          refine gf_RX3_54 C hP 0 rfl rfl dX3_lay_53 ?_
          refine lv_aload_n hx hb dX3_lay_56 rfl (lv_at hl 2 rfl) ?_
          refine gf_RX3_49 C hP 3 rfl rfl dX3_lay_57 ?_
          refine lv_iload_n hx hb dX3_lay_60 rfl (lv_at hl 4 rfl) ?_
          refine lv_bipush (v := 7) hx hb dX3_lay_61 (by decide) ?_
          refine lv_imul hx hb dX3_lay_63 ?_
          refine lv_iload hx hb dX3_lay_64 (lv_at hl 0 rfl) ?_
          refine lv_iadd hx hb dX3_lay_66 ?_
          obtain ⟨g6, hf⟩ := gd_some hf
          refine va_iald hx hb C.2.2.2.2.2.1 hP 4 0 rfl rfl (vin_in g6) dX3_lay_67 ?_
          refine r_min C q936 (Nat.le_of_ble_eq_true rfl) hl.1 (Nat.le_of_ble_eq_true rfl) dX3_lay_68 ?_
          refine pf_RX3_54 C hP hD hS 0 rfl (Nat.le_of_ble_eq_true rfl) dX3_lay_71 (fun H locs hP hD hS => ?_)
          have hP : va_P E.1 classes (WX3_lay E q0 q0_members q0_steps q1 q1_snow q1_path q1_debt i_size ((mn i_least ((a_p1_debt ((((v3 * 7)) + o4) : Int32).toNatClampNeg)))) a_members a_steps i_p1_now a_p1_debt) H := hP
          have hD : va_D A (WX3_lay E q0 q0_members q0_steps q1 q1_snow q1_path q1_debt i_size ((mn i_least ((a_p1_debt ((((v3 * 7)) + o4) : Int32).toNatClampNeg)))) a_members a_steps i_p1_now a_p1_debt) := hD
          refine lv_iload hx hb dX3_lay_74 (lv_at hl 5 rfl) ?_
          refine lv_aload_n hx hb dX3_lay_76 rfl (lv_at hl 1 rfl) ?_
          refine gf_RX3_18 C hP 0 rfl rfl dX3_lay_77 ?_
          refine lv_icmp_ge (tgt := 99) hx hb dX3_lay_80 (by decide) (fun c7 => ?_) (fun c7 => ?_)
          · rw [if_pos c7] at hf
            refine lv_iload hx hb dX3_lay_99 (lv_at hl 0 rfl) ?_
            refine lv_istore_n (lv' := [(3, .int o4), (5, .int o4), (0, .ref q0), (1, .ref q1), (2, .int p2), (4, .int v4)]) hx hb dX3_lay_101 rfl hl (by decide) rfl (fun ls hl => ?_)
            refine lv_iinc (v := (v4 + 1)) (lv' := [(4, .int ((v4 + 1))), (3, .int o4), (5, .int o4), (0, .ref q0), (1, .ref q1), (2, .int p2)]) hx hb dX3_lay_102 hl (k := 5) rfl rfl (by decide) rfl (fun ls hl => ?_)
            refine lv_goto (tgt := 19) hx hb dX3_lay_105 (by decide) ?_
            exact ih o4 ((v4 + 1)) ((mn i_least ((a_p1_debt ((((v3 * 7)) + o4) : Int32).toNatClampNeg)))) a_members _ hf hE _ _ _ (lv_sub hl [3, 4, 5, 1, 0] rfl) hP hD hS
          · rw [if_neg c7] at hf
            refine lv_iload hx hb dX3_lay_83 (lv_at hl 5 rfl) ?_
            refine lv_bipush (v := 7) hx hb dX3_lay_85 (by decide) ?_
            refine lv_icmp_ge (tgt := 99) hx hb dX3_lay_87 (by decide) (fun c8 => ?_) (fun c8 => ?_)
            · rw [if_pos c8] at hf
              refine lv_iload hx hb dX3_lay_99 (lv_at hl 0 rfl) ?_
              refine lv_istore_n (lv' := [(3, .int o4), (5, .int o4), (0, .ref q0), (1, .ref q1), (2, .int p2), (4, .int v4)]) hx hb dX3_lay_101 rfl hl (by decide) rfl (fun ls hl => ?_)
              refine lv_iinc (v := (v4 + 1)) (lv' := [(4, .int ((v4 + 1))), (3, .int o4), (5, .int o4), (0, .ref q0), (1, .ref q1), (2, .int p2)]) hx hb dX3_lay_102 hl (k := 5) rfl rfl (by decide) rfl (fun ls hl => ?_)
              refine lv_goto (tgt := 19) hx hb dX3_lay_105 (by decide) ?_
              exact ih o4 ((v4 + 1)) ((mn i_least ((a_p1_debt ((((v3 * 7)) + o4) : Int32).toNatClampNeg)))) a_members _ hf hE _ _ _ (lv_sub hl [3, 4, 5, 1, 0] rfl) hP hD hS
            · rw [if_neg c8] at hf
              refine lv_aload_n hx hb dX3_lay_90 rfl (lv_at hl 1 rfl) ?_
              refine gf_RX3_9 C hP 0 rfl rfl dX3_lay_91 ?_
              refine lv_iload hx hb dX3_lay_94 (lv_at hl 5 rfl) ?_
              refine lv_iload hx hb dX3_lay_96 (lv_at hl 0 rfl) ?_
              obtain ⟨g9, hf⟩ := gd_some hf
              refine va_iast hx hb C.2.2.2.2.2.1 hP hD hS 1 0 rfl rfl (vin_in g9) dX3_lay_98 (fun H locs hP hD hS => ?_)
              have hP : va_P E.1 classes (WX3_lay E q0 q0_members q0_steps q1 q1_snow q1_path q1_debt i_size ((mn i_least ((a_p1_debt ((((v3 * 7)) + o4) : Int32).toNatClampNeg)))) ((upd a_members (v4 : Int32).toNatClampNeg o4)) a_steps i_p1_now a_p1_debt) H := hP
              have hD : va_D A (WX3_lay E q0 q0_members q0_steps q1 q1_snow q1_path q1_debt i_size ((mn i_least ((a_p1_debt ((((v3 * 7)) + o4) : Int32).toNatClampNeg)))) ((upd a_members (v4 : Int32).toNatClampNeg o4)) a_steps i_p1_now a_p1_debt) := hD
              refine lv_iload hx hb dX3_lay_99 (lv_at hl 0 rfl) ?_
              refine lv_istore_n (lv' := [(3, .int o4), (5, .int o4), (0, .ref q0), (1, .ref q1), (2, .int p2), (4, .int v4)]) hx hb dX3_lay_101 rfl hl (by decide) rfl (fun ls hl => ?_)
              refine lv_iinc (v := (v4 + 1)) (lv' := [(4, .int ((v4 + 1))), (3, .int o4), (5, .int o4), (0, .ref q0), (1, .ref q1), (2, .int p2)]) hx hb dX3_lay_102 hl (k := 5) rfl rfl (by decide) rfl (fun ls hl => ?_)
              refine lv_goto (tgt := 19) hx hb dX3_lay_105 (by decide) ?_
              exact ih o4 ((v4 + 1)) ((mn i_least ((a_p1_debt ((((v3 * 7)) + o4) : Int32).toNatClampNeg)))) ((upd a_members (v4 : Int32).toNatClampNeg o4)) _ hf hE _ _ _ (lv_sub hl [3, 4, 5, 1, 0] rfl) hP hD hS
  intro H locs ls hl hP hD hS
  have hl : lv_has ls 6 [(0, .ref q0), (1, .ref q1), (2, .int p2)] := hl
  unfold fX3_lay at hf
  refine lv_iload_n hx hb dX3_lay_0 rfl (lv_at hl 2 rfl) ?_
  refine lv_istore_n (lv' := [(3, .int p2), (0, .ref q0), (1, .ref q1), (2, .int p2)]) hx hb dX3_lay_1 rfl hl (by decide) rfl (fun ls hl => ?_)
  refine lv_aload_n hx hb dX3_lay_2 rfl (lv_at hl 1 rfl) ?_
  refine gf_RX3_9 C hP 0 rfl rfl dX3_lay_3 ?_
  refine lv_iconst (v := 0) hx hb dX3_lay_6 (by decide) ?_
  refine lv_iload_n hx hb dX3_lay_7 rfl (lv_at hl 3 rfl) ?_
  obtain ⟨g1, hf⟩ := gd_some hf
  refine va_iast hx hb C.2.2.2.2.2.1 hP hD hS 1 0 rfl rfl (vin_in g1) dX3_lay_8 (fun H locs hP hD hS => ?_)
  have hP : va_P E.1 classes (WX3_lay E q0 q0_members q0_steps q1 q1_snow q1_path q1_debt i_size i_least ((upd a_members (0 : Int32).toNatClampNeg p2)) a_steps i_p1_now a_p1_debt) H := hP
  have hD : va_D A (WX3_lay E q0 q0_members q0_steps q1 q1_snow q1_path q1_debt i_size i_least ((upd a_members (0 : Int32).toNatClampNeg p2)) a_steps i_p1_now a_p1_debt) := hD
  refine lv_aload_n hx hb dX3_lay_9 rfl (lv_at hl 1 rfl) ?_
  refine lv_sipush (v := 9999) hx hb dX3_lay_10 (by decide) ?_
  refine pf_RX3_54 C hP hD hS 0 rfl (Nat.le_of_ble_eq_true rfl) dX3_lay_13 (fun H locs hP hD hS => ?_)
  have hP : va_P E.1 classes (WX3_lay E q0 q0_members q0_steps q1 q1_snow q1_path q1_debt i_size 9999 ((upd a_members (0 : Int32).toNatClampNeg p2)) a_steps i_p1_now a_p1_debt) H := hP
  have hD : va_D A (WX3_lay E q0 q0_members q0_steps q1 q1_snow q1_path q1_debt i_size 9999 ((upd a_members (0 : Int32).toNatClampNeg p2)) a_steps i_p1_now a_p1_debt) := hD
  refine lv_iconst (v := 1) hx hb dX3_lay_16 (by decide) ?_
  refine lv_istore (lv' := [(4, .int 1), (3, .int p2), (0, .ref q0), (1, .ref q1), (2, .int p2)]) hx hb dX3_lay_17 hl (by decide) rfl (fun ls hl => ?_)
  obtain ⟨o10, hg11, hf⟩ := bd_some hf
  refine L19 FU p2 1 9999 ((upd a_members (0 : Int32).toNatClampNeg p2)) o10 hg11 ?_ _ _ _ (lv_sub hl [2, 3, 4, 1, 0] rfl) hP hD hS
  intro H locs ls hl hP hD hS
  have hj0 := Option.some.inj hf
  obtain ⟨ha0, hj1⟩ := Prod.mk.inj hj0
  subst ha0
  subst hj1
  exact hret _ _ _ _ dX3_lay_108 hP hD hS
theorem pf_RX3_18 {p : Program} {l : Launch} {e : Env} {R : Room} {s : State} {m : MethodId} {args : Array Value} {below : List Frame} {meth : Method} {c : Code} {H : Heap} {locs : List Loc} {cells slots : Nat} {Q : State → Prop} {E : ENV} {cc : ByteArray} {n : Nat} {r : Option FieldType} {pc : Nat} {ls : Array Slot} {rest : List Value} {a : Nat} {ws : va_W} {nm ds : String} {fs : List Value} {A : Nat → Prop} {H0 : Heap} {x : Int32} (C : Cx E A ⟨RX3, nm, ds⟩ cc n r p s m args meth c) (hP : va_P E.1 classes ws H) (hD : va_D A ws) (hS : va_S A H0 H locs) (q0 : Nat) (he : ws[q0]? = some (a, .inr (3, fs))) (hl : 2 < fs.length) (hdg : decode cc pc = .ok (.putfield 18, 3))
    (kk : ∀ (H1 : Heap) (locs1 : List Loc), va_P E.1 classes (ws.set q0 (a, .inr (3, fs.set 2 (.int x)))) H1 → va_D A (ws.set q0 (a, .inr (3, fs.set 2 (.int x)))) → va_S A H0 H1 locs1 → W p l e R s m args below meth c H1 locs1 cells slots Q (F0 m (pc + 3) ls rest)) : W p l e R s m args below meth c H locs cells slots Q (F0 m pc ls (.int x :: .ref a :: rest)) :=
  va_put (C := RX3) (T := TX3) (N := 4) (ty := .int) (Ts := wl ⟨RX3, nm, ds⟩ cc n r) C.1 C.2.1 C.2.2.2.2.1 (fun w h => List.mem_cons_of_mem _ (inT3 w h)) tyX3 tyX3_ok nmX3 C.2.2.2.1 C.2.2.2.2.2.1 hP hD hS q0 he rfl 2 (by decide) (C.2.2.2.2.1 _ (List.mem_cons_of_mem _ q372)) (fun _ h9 => h9) rfl (by decide +kernel) rfl rfl hl hdg kk
theorem K_RX3_22 : KV RX3 22 yX3_measure cX3_measure 5 none 2 := ⟨Tg_mem 930 (by decide +kernel) (by decide +kernel), Tg_mem 100 (by decide +kernel) (by decide +kernel), Tg_mem 927 (by decide +kernel) (by decide +kernel), Tg_mem 929 (by decide +kernel) (by decide +kernel), Tg_mem 22 (by decide +kernel) (by decide +kernel), by decide +kernel⟩
theorem K_RX3_26 : KV RX3 26 yX3_lengthFrom cX3_lengthFrom 5 (some .int) 2 := ⟨Tg_mem 940 (by decide +kernel) (by decide +kernel), Tg_mem 100 (by decide +kernel) (by decide +kernel), Tg_mem 937 (by decide +kernel) (by decide +kernel), Tg_mem 939 (by decide +kernel) (by decide +kernel), Tg_mem 24 (by decide +kernel) (by decide +kernel), by decide +kernel⟩
theorem K_RX3_30 : KV RX3 30 yX3_lay cX3_lay 6 none 2 := ⟨Tg_mem 944 (by decide +kernel) (by decide +kernel), Tg_mem 100 (by decide +kernel) (by decide +kernel), Tg_mem 941 (by decide +kernel) (by decide +kernel), Tg_mem 943 (by decide +kernel) (by decide +kernel), Tg_mem 25 (by decide +kernel) (by decide +kernel), by decide +kernel⟩
theorem dX3_find_0 : decode cX3_find 0 = .ok (.aload_n 0, 1) := by decide +kernel
theorem dX3_find_1 : decode cX3_find 1 = .ok (.bipush 99, 2) := by decide +kernel
theorem dX3_find_3 : decode cX3_find 3 = .ok (.putfield 18, 3) := by decide +kernel
theorem dX3_find_6 : decode cX3_find 6 = .ok (.iconst 0, 1) := by decide +kernel
theorem dX3_find_7 : decode cX3_find 7 = .ok (.istore_n 2, 1) := by decide +kernel
theorem dX3_find_8 : decode cX3_find 8 = .ok (.iload_n 2, 1) := by decide +kernel
theorem dX3_find_9 : decode cX3_find 9 = .ok (.bipush 7, 2) := by decide +kernel
theorem dX3_find_11 : decode cX3_find 11 = .ok (.if_icmp .ge 41, 3) := by decide +kernel
theorem dX3_find_14 : decode cX3_find 14 = .ok (.aload_n 0, 1) := by decide +kernel
theorem dX3_find_15 : decode cX3_find 15 = .ok (.aload_n 1, 1) := by decide +kernel
theorem dX3_find_16 : decode cX3_find 16 = .ok (.iload_n 2, 1) := by decide +kernel
theorem dX3_find_17 : decode cX3_find 17 = .ok (.invokevirtual 22, 3) := by decide +kernel
theorem dX3_find_20 : decode cX3_find 20 = .ok (.aload_n 0, 1) := by decide +kernel
theorem dX3_find_21 : decode cX3_find 21 = .ok (.aload_n 1, 1) := by decide +kernel
theorem dX3_find_22 : decode cX3_find 22 = .ok (.iload_n 2, 1) := by decide +kernel
theorem dX3_find_23 : decode cX3_find 23 = .ok (.invokevirtual 26, 3) := by decide +kernel
theorem dX3_find_26 : decode cX3_find 26 = .ok (.istore_n 3, 1) := by decide +kernel
theorem dX3_find_27 : decode cX3_find 27 = .ok (.iload_n 3, 1) := by decide +kernel
theorem dX3_find_28 : decode cX3_find 28 = .ok (.aload_n 0, 1) := by decide +kernel
theorem dX3_find_29 : decode cX3_find 29 = .ok (.getfield 18, 3) := by decide +kernel
theorem dX3_find_32 : decode cX3_find 32 = .ok (.if_icmp .ge 14, 3) := by decide +kernel
theorem dX3_find_35 : decode cX3_find 35 = .ok (.aload_n 0, 1) := by decide +kernel
theorem dX3_find_36 : decode cX3_find 36 = .ok (.iload_n 3, 1) := by decide +kernel
theorem dX3_find_37 : decode cX3_find 37 = .ok (.putfield 18, 3) := by decide +kernel
theorem dX3_find_40 : decode cX3_find 40 = .ok (.aload_n 0, 1) := by decide +kernel
theorem dX3_find_41 : decode cX3_find 41 = .ok (.aload_n 1, 1) := by decide +kernel
theorem dX3_find_42 : decode cX3_find 42 = .ok (.iload_n 2, 1) := by decide +kernel
theorem dX3_find_43 : decode cX3_find 43 = .ok (.invokevirtual 30, 3) := by decide +kernel
theorem dX3_find_46 : decode cX3_find 46 = .ok (.iinc 2 1, 3) := by decide +kernel
theorem dX3_find_49 : decode cX3_find 49 = .ok (.goto (-41), 3) := by decide +kernel
theorem dX3_find_52 : decode cX3_find 52 = .ok (.aload_n 0, 1) := by decide +kernel
theorem dX3_find_53 : decode cX3_find 53 = .ok (.getfield 18, 3) := by decide +kernel
theorem dX3_find_56 : decode cX3_find 56 = .ok (.bipush 99, 2) := by decide +kernel
theorem dX3_find_58 : decode cX3_find 58 = .ok (.if_icmp .ge 7, 3) := by decide +kernel
theorem dX3_find_61 : decode cX3_find 61 = .ok (.iconst 1, 1) := by decide +kernel
theorem dX3_find_62 : decode cX3_find 62 = .ok (.goto 4, 3) := by decide +kernel
theorem dX3_find_65 : decode cX3_find 65 = .ok (.iconst 0, 1) := by decide +kernel
theorem dX3_find_66 : decode cX3_find 66 = .ok (.ireturn, 1) := by decide +kernel
def WX3_find (E : ENV) (q0 : Nat) (q0_members : Nat) (q0_steps : Nat) (q1 : Nat) (q1_snow : Nat) (q1_path : Nat) (q1_debt : Nat) (i_size : Int32) (i_least : Int32) (a_steps : Nat → Int32) (a_members : Nat → Int32) (i_p1_now : Int32) (a_p1_debt : Nat → Int32) : va_W := [(q0, .inr (3, [.ref q0_members, .ref q0_steps, .int i_size, .int i_least])), (q0_steps, .inl (E.2.1, 7, .inl a_steps)), (q0_members, .inl (E.2.1, 7, .inl a_members)), (q1, .inr (5, [.ref q1_snow, .ref q1_path, .ref q1_debt, .int i_p1_now])), (q1_debt, .inl (E.2.1, 49, .inl a_p1_debt))]
set_option maxHeartbeats 4000000 in
set_option maxRecDepth 20000 in
theorem kX3_find (l : Launch) (E : ENV) (q0 : Nat) (q0_members : Nat) (q0_steps : Nat) (q1 : Nat) (q1_snow : Nat) (q1_path : Nat) (q1_debt : Nat) (i_size : Int32) (i_least : Int32) (a_steps : Nat → Int32) (a_members : Nat → Int32) (i_p1_now : Int32) (a_p1_debt : Nat → Int32) (r9 : Int32) (i_size9 : Int32) (i_least9 : Int32) (a_steps9 : Nat → Int32) (a_members9 : Nat → Int32) (hf : fX3_find i_size i_least a_steps a_members a_p1_debt = some (r9, i_size9, i_least9, a_steps9, a_members9)) : CI l E yX3_find cX3_find 4 (some .boolean) 3 [.ref q0, .ref q1] (WX3_find E q0 q0_members q0_steps q1 q1_snow q1_path q1_debt i_size i_least a_steps a_members i_p1_now a_p1_debt) (WX3_find E q0 q0_members q0_steps q1 q1_snow q1_path q1_debt i_size9 i_least9 a_steps9 a_members9 i_p1_now a_p1_debt) r9 := by
  refine begI (by decide +kernel) (Nat.le_of_ble_eq_true rfl) ?_
  intro p e s m args below meth c A Q C hA hret
  have hx := C.1
  have hb := C.2.1
  have L8 : ∀ (n : Nat) (v2 : Int32) (i_size : Int32) (i_least : Int32) (a_steps : Nat → Int32) (a_members : Nat → Int32) (o : Int32 × Int32 × (Nat → Int32) × (Nat → Int32)), fX3_find_L8 a_p1_debt n v2 i_size i_least a_steps a_members = some o → (GO p l e 3 s m args below meth c Q E A 4 52 [] [(0, .ref q0)] (WX3_find E q0 q0_members q0_steps q1 q1_snow q1_path q1_debt o.1 o.2.1 o.2.2.1 o.2.2.2 i_p1_now a_p1_debt)) → GO p l e 3 s m args below meth c Q E A 4 8 [] [(0, .ref q0), (1, .ref q1), (2, .int v2)] (WX3_find E q0 q0_members q0_steps q1 q1_snow q1_path q1_debt i_size i_least a_steps a_members i_p1_now a_p1_debt) := by
    intro n
    induction n with
    | zero =>
      intro v2 i_size i_least a_steps a_members o hf
      have hf : none = some o := hf
      cases hf
    | succ n ih =>
      intro v2 i_size i_least a_steps a_members o hf hE
      intro H locs ls hl hP hD hS
      rw [fX3_find_L8] at hf
      refine lv_iload_n hx hb dX3_find_8 rfl (lv_at hl 2 rfl) ?_
      refine lv_bipush (v := 7) hx hb dX3_find_9 (by decide) ?_
      refine lv_icmp_ge (tgt := 52) hx hb dX3_find_11 (by decide) (fun c1 => ?_) (fun c1 => ?_)
      · rw [if_pos c1] at hf
        have hf := Option.some.inj hf
        subst hf
        exact hE _ _ _ (lv_sub hl [0] rfl) hP hD hS
      · rw [if_neg c1] at hf
        refine lv_aload_n hx hb dX3_find_14 rfl (lv_at hl 0 rfl) ?_
        refine lv_aload_n hx hb dX3_find_15 rfl (lv_at hl 1 rfl) ?_
        refine lv_iload_n hx hb dX3_find_16 rfl (lv_at hl 2 rfl) ?_
        obtain ⟨o2, hg3, hf⟩ := bd_some hf
        refine k_VV (As := [.ref q1, .int v2]) C K_RX3_22 (Nat.le_of_ble_eq_true rfl) (Nat.le_of_ble_eq_true rfl) (kX3_measure l E q0 q0_members q0_steps q1 q1_snow q1_path q1_debt i_size i_least a_steps i_p1_now a_p1_debt v2 o2 hg3) [0, 1, 3, 4] rfl rfl rfl (ci := 3) rfl rfl (q0 := 0) rfl hP hD hS hA hl.1 (Nat.le_of_ble_eq_true rfl) rfl dX3_find_17 (fun H locs hP hD hS => ?_)
        have hP : va_P E.1 classes (WX3_find E q0 q0_members q0_steps q1 q1_snow q1_path q1_debt i_size i_least o2 a_members i_p1_now a_p1_debt) H := hP
        have hD : va_D A (WX3_find E q0 q0_members q0_steps q1 q1_snow q1_path q1_debt i_size i_least o2 a_members i_p1_now a_p1_debt) := hD
        refine lv_aload_n hx hb dX3_find_20 rfl (lv_at hl 0 rfl) ?_
        refine lv_aload_n hx hb dX3_find_21 rfl (lv_at hl 1 rfl) ?_
        refine lv_iload_n hx hb dX3_find_22 rfl (lv_at hl 2 rfl) ?_
        obtain ⟨o4, hg5, hf⟩ := bd_some hf
        refine k_VI (As := [.ref q1, .int v2]) C K_RX3_26 (Nat.le_of_ble_eq_true rfl) (Nat.le_of_ble_eq_true rfl) (kX3_lengthFrom l E q0 q0_members q0_steps q1 q1_snow q1_path q1_debt i_size i_least o2 i_p1_now a_p1_debt v2 o4 hg5) [0, 1, 3, 4] rfl rfl rfl (ci := 3) rfl rfl (q0 := 0) rfl hP hD hS hA hl.1 (Nat.le_of_ble_eq_true rfl) rfl dX3_find_23 (fun H locs hP hD hS => ?_)
        have hP : va_P E.1 classes (WX3_find E q0 q0_members q0_steps q1 q1_snow q1_path q1_debt i_size i_least o2 a_members i_p1_now a_p1_debt) H := hP
        have hD : va_D A (WX3_find E q0 q0_members q0_steps q1 q1_snow q1_path q1_debt i_size i_least o2 a_members i_p1_now a_p1_debt) := hD
        refine lv_istore_n (lv' := [(3, .int o4), (0, .ref q0), (1, .ref q1), (2, .int v2)]) hx hb dX3_find_26 rfl hl (by decide) rfl (fun ls hl => ?_)
        refine lv_iload_n hx hb dX3_find_27 rfl (lv_at hl 0 rfl) ?_
        refine lv_aload_n hx hb dX3_find_28 rfl (lv_at hl 1 rfl) ?_
        refine gf_RX3_18 C hP 0 rfl rfl dX3_find_29 ?_
        refine lv_icmp_ge (tgt := 46) hx hb dX3_find_32 (by decide) (fun c6 => ?_) (fun c6 => ?_)
        · rw [if_pos c6] at hf
          refine lv_iinc (v := (v2 + 1)) (lv' := [(2, .int ((v2 + 1))), (3, .int o4), (0, .ref q0), (1, .ref q1)]) hx hb dX3_find_46 hl (k := 3) rfl rfl (by decide) rfl (fun ls hl => ?_)
          refine lv_goto (tgt := 8) hx hb dX3_find_49 (by decide) ?_
          exact ih ((v2 + 1)) i_size i_least o2 a_members _ hf hE _ _ _ (lv_sub hl [2, 3, 0] rfl) hP hD hS
        · rw [if_neg c6] at hf
          refine lv_aload_n hx hb dX3_find_35 rfl (lv_at hl 1 rfl) ?_
          refine lv_iload_n hx hb dX3_find_36 rfl (lv_at hl 0 rfl) ?_
          refine pf_RX3_18 C hP hD hS 0 rfl (Nat.le_of_ble_eq_true rfl) dX3_find_37 (fun H locs hP hD hS => ?_)
          have hP : va_P E.1 classes (WX3_find E q0 q0_members q0_steps q1 q1_snow q1_path q1_debt o4 i_least o2 a_members i_p1_now a_p1_debt) H := hP
          have hD : va_D A (WX3_find E q0 q0_members q0_steps q1 q1_snow q1_path q1_debt o4 i_least o2 a_members i_p1_now a_p1_debt) := hD
          refine lv_aload_n hx hb dX3_find_40 rfl (lv_at hl 1 rfl) ?_
          refine lv_aload_n hx hb dX3_find_41 rfl (lv_at hl 2 rfl) ?_
          refine lv_iload_n hx hb dX3_find_42 rfl (lv_at hl 3 rfl) ?_
          obtain ⟨o7, hg8, hf⟩ := bd_some hf
          refine k_VV (As := [.ref q1, .int v2]) C K_RX3_30 (Nat.le_of_ble_eq_true rfl) (Nat.le_of_ble_eq_true rfl) (kX3_lay l E q0 q0_members q0_steps q1 q1_snow q1_path q1_debt o4 i_least a_members o2 i_p1_now a_p1_debt v2 o7.1 o7.2 hg8) [0, 2, 1, 3, 4] rfl rfl rfl (ci := 3) rfl rfl (q0 := 0) rfl hP hD hS hA hl.1 (Nat.le_of_ble_eq_true rfl) rfl dX3_find_43 (fun H locs hP hD hS => ?_)
          have hP : va_P E.1 classes (WX3_find E q0 q0_members q0_steps q1 q1_snow q1_path q1_debt o4 o7.1 o2 o7.2 i_p1_now a_p1_debt) H := hP
          have hD : va_D A (WX3_find E q0 q0_members q0_steps q1 q1_snow q1_path q1_debt o4 o7.1 o2 o7.2 i_p1_now a_p1_debt) := hD
          refine lv_iinc (v := (v2 + 1)) (lv' := [(2, .int ((v2 + 1))), (3, .int o4), (0, .ref q0), (1, .ref q1)]) hx hb dX3_find_46 hl (k := 3) rfl rfl (by decide) rfl (fun ls hl => ?_)
          refine lv_goto (tgt := 8) hx hb dX3_find_49 (by decide) ?_
          exact ih ((v2 + 1)) o4 o7.1 o2 o7.2 _ hf hE _ _ _ (lv_sub hl [2, 3, 0] rfl) hP hD hS
  intro H locs ls hl hP hD hS
  have hl : lv_has ls 4 [(0, .ref q0), (1, .ref q1)] := hl
  unfold fX3_find at hf
  refine lv_aload_n hx hb dX3_find_0 rfl (lv_at hl 0 rfl) ?_
  refine lv_bipush (v := 99) hx hb dX3_find_1 (by decide) ?_
  refine pf_RX3_18 C hP hD hS 0 rfl (Nat.le_of_ble_eq_true rfl) dX3_find_3 (fun H locs hP hD hS => ?_)
  have hP : va_P E.1 classes (WX3_find E q0 q0_members q0_steps q1 q1_snow q1_path q1_debt 99 i_least a_steps a_members i_p1_now a_p1_debt) H := hP
  have hD : va_D A (WX3_find E q0 q0_members q0_steps q1 q1_snow q1_path q1_debt 99 i_least a_steps a_members i_p1_now a_p1_debt) := hD
  refine lv_iconst (v := 0) hx hb dX3_find_6 (by decide) ?_
  refine lv_istore_n (lv' := [(2, .int 0), (0, .ref q0), (1, .ref q1)]) hx hb dX3_find_7 rfl hl (by decide) rfl (fun ls hl => ?_)
  obtain ⟨o9, hg10, hf⟩ := bd_some hf
  refine L8 FU 0 99 i_least a_steps a_members o9 hg10 ?_ _ _ _ (lv_sub hl [1, 2, 0] rfl) hP hD hS
  intro H locs ls hl hP hD hS
  refine lv_aload_n hx hb dX3_find_52 rfl (lv_at hl 0 rfl) ?_
  refine gf_RX3_18 C hP 0 rfl rfl dX3_find_53 ?_
  refine lv_bipush (v := 99) hx hb dX3_find_56 (by decide) ?_
  refine lv_icmp_ge (tgt := 65) hx hb dX3_find_58 (by decide) (fun c11 => ?_) (fun c11 => ?_)
  · rw [if_pos c11] at hf
    refine lv_iconst (v := 0) hx hb dX3_find_65 (by decide) ?_
    have hj0 := Option.some.inj hf
    obtain ⟨ha0, hj1⟩ := Prod.mk.inj hj0
    obtain ⟨ha1, hj2⟩ := Prod.mk.inj hj1
    obtain ⟨ha2, hj3⟩ := Prod.mk.inj hj2
    obtain ⟨ha3, hj4⟩ := Prod.mk.inj hj3
    subst ha0
    subst ha1
    subst ha2
    subst ha3
    subst hj4
    exact hret _ _ _ _ dX3_find_66 rfl hP hD hS
  · rw [if_neg c11] at hf
    refine lv_iconst (v := 1) hx hb dX3_find_61 (by decide) ?_
    refine lv_goto (tgt := 66) hx hb dX3_find_62 (by decide) ?_
    have hj0 := Option.some.inj hf
    obtain ⟨ha0, hj1⟩ := Prod.mk.inj hj0
    obtain ⟨ha1, hj2⟩ := Prod.mk.inj hj1
    obtain ⟨ha2, hj3⟩ := Prod.mk.inj hj2
    obtain ⟨ha3, hj4⟩ := Prod.mk.inj hj3
    subst ha0
    subst ha1
    subst ha2
    subst ha3
    subst hj4
    exact hret _ _ _ _ dX3_find_66 rfl hP hD hS
theorem dX3_clearIn_0 : decode cX3_clearIn 0 = .ok (.iconst 0, 1) := by decide +kernel
theorem dX3_clearIn_1 : decode cX3_clearIn 1 = .ok (.istore_n 2, 1) := by decide +kernel
theorem dX3_clearIn_2 : decode cX3_clearIn 2 = .ok (.iload_n 2, 1) := by decide +kernel
theorem dX3_clearIn_3 : decode cX3_clearIn 3 = .ok (.aload_n 0, 1) := by decide +kernel
theorem dX3_clearIn_4 : decode cX3_clearIn 4 = .ok (.getfield 18, 3) := by decide +kernel
theorem dX3_clearIn_7 : decode cX3_clearIn 7 = .ok (.if_icmp .ge 74, 3) := by decide +kernel
theorem dX3_clearIn_10 : decode cX3_clearIn 10 = .ok (.iload_n 2, 1) := by decide +kernel
theorem dX3_clearIn_11 : decode cX3_clearIn 11 = .ok (.bipush 7, 2) := by decide +kernel
theorem dX3_clearIn_13 : decode cX3_clearIn 13 = .ok (.if_icmp .ge 68, 3) := by decide +kernel
theorem dX3_clearIn_16 : decode cX3_clearIn 16 = .ok (.iload_n 2, 1) := by decide +kernel
theorem dX3_clearIn_17 : decode cX3_clearIn 17 = .ok (.iconst 1, 1) := by decide +kernel
theorem dX3_clearIn_18 : decode cX3_clearIn 18 = .ok (.iadd, 1) := by decide +kernel
theorem dX3_clearIn_19 : decode cX3_clearIn 19 = .ok (.aload_n 0, 1) := by decide +kernel
theorem dX3_clearIn_20 : decode cX3_clearIn 20 = .ok (.getfield 18, 3) := by decide +kernel
theorem dX3_clearIn_23 : decode cX3_clearIn 23 = .ok (.if_icmp .ge 22, 3) := by decide +kernel
theorem dX3_clearIn_26 : decode cX3_clearIn 26 = .ok (.iload_n 2, 1) := by decide +kernel
theorem dX3_clearIn_27 : decode cX3_clearIn 27 = .ok (.iconst 1, 1) := by decide +kernel
theorem dX3_clearIn_28 : decode cX3_clearIn 28 = .ok (.iadd, 1) := by decide +kernel
theorem dX3_clearIn_29 : decode cX3_clearIn 29 = .ok (.bipush 7, 2) := by decide +kernel
theorem dX3_clearIn_31 : decode cX3_clearIn 31 = .ok (.if_icmp .ge 14, 3) := by decide +kernel
theorem dX3_clearIn_34 : decode cX3_clearIn 34 = .ok (.aload_n 0, 1) := by decide +kernel
theorem dX3_clearIn_35 : decode cX3_clearIn 35 = .ok (.getfield 9, 3) := by decide +kernel
theorem dX3_clearIn_38 : decode cX3_clearIn 38 = .ok (.iload_n 2, 1) := by decide +kernel
theorem dX3_clearIn_39 : decode cX3_clearIn 39 = .ok (.iconst 1, 1) := by decide +kernel
theorem dX3_clearIn_40 : decode cX3_clearIn 40 = .ok (.iadd, 1) := by decide +kernel
theorem dX3_clearIn_41 : decode cX3_clearIn 41 = .ok (.iaload, 1) := by decide +kernel
theorem dX3_clearIn_42 : decode cX3_clearIn 42 = .ok (.goto 9, 3) := by decide +kernel
theorem dX3_clearIn_45 : decode cX3_clearIn 45 = .ok (.aload_n 0, 1) := by decide +kernel
theorem dX3_clearIn_46 : decode cX3_clearIn 46 = .ok (.getfield 9, 3) := by decide +kernel
theorem dX3_clearIn_49 : decode cX3_clearIn 49 = .ok (.iconst 0, 1) := by decide +kernel
theorem dX3_clearIn_50 : decode cX3_clearIn 50 = .ok (.iaload, 1) := by decide +kernel
theorem dX3_clearIn_51 : decode cX3_clearIn 51 = .ok (.istore_n 3, 1) := by decide +kernel
theorem dX3_clearIn_52 : decode cX3_clearIn 52 = .ok (.aload_n 1, 1) := by decide +kernel
theorem dX3_clearIn_53 : decode cX3_clearIn 53 = .ok (.getfield 49, 3) := by decide +kernel
theorem dX3_clearIn_56 : decode cX3_clearIn 56 = .ok (.aload_n 0, 1) := by decide +kernel
theorem dX3_clearIn_57 : decode cX3_clearIn 57 = .ok (.getfield 9, 3) := by decide +kernel
theorem dX3_clearIn_60 : decode cX3_clearIn 60 = .ok (.iload_n 2, 1) := by decide +kernel
theorem dX3_clearIn_61 : decode cX3_clearIn 61 = .ok (.iaload, 1) := by decide +kernel
theorem dX3_clearIn_62 : decode cX3_clearIn 62 = .ok (.bipush 7, 2) := by decide +kernel
theorem dX3_clearIn_64 : decode cX3_clearIn 64 = .ok (.imul, 1) := by decide +kernel
theorem dX3_clearIn_65 : decode cX3_clearIn 65 = .ok (.iload_n 3, 1) := by decide +kernel
theorem dX3_clearIn_66 : decode cX3_clearIn 66 = .ok (.iadd, 1) := by decide +kernel
theorem dX3_clearIn_67 : decode cX3_clearIn 67 = .ok (.dup2, 1) := by decide +kernel
theorem dX3_clearIn_68 : decode cX3_clearIn 68 = .ok (.iaload, 1) := by decide +kernel
theorem dX3_clearIn_69 : decode cX3_clearIn 69 = .ok (.aload_n 0, 1) := by decide +kernel
theorem dX3_clearIn_70 : decode cX3_clearIn 70 = .ok (.getfield 54, 3) := by decide +kernel
theorem dX3_clearIn_73 : decode cX3_clearIn 73 = .ok (.isub, 1) := by decide +kernel
theorem dX3_clearIn_74 : decode cX3_clearIn 74 = .ok (.iastore, 1) := by decide +kernel
theorem dX3_clearIn_75 : decode cX3_clearIn 75 = .ok (.iinc 2 1, 3) := by decide +kernel
theorem dX3_clearIn_78 : decode cX3_clearIn 78 = .ok (.goto (-76), 3) := by decide +kernel
theorem dX3_clearIn_81 : decode cX3_clearIn 81 = .ok (.aload_n 0, 1) := by decide +kernel
theorem dX3_clearIn_82 : decode cX3_clearIn 82 = .ok (.getfield 54, 3) := by decide +kernel
theorem dX3_clearIn_85 : decode cX3_clearIn 85 = .ok (.aload_n 0, 1) := by decide +kernel
theorem dX3_clearIn_86 : decode cX3_clearIn 86 = .ok (.getfield 18, 3) := by decide +kernel
theorem dX3_clearIn_89 : decode cX3_clearIn 89 = .ok (.imul, 1) := by decide +kernel
theorem dX3_clearIn_90 : decode cX3_clearIn 90 = .ok (.ireturn, 1) := by decide +kernel
def WX3_clearIn (E : ENV) (q0 : Nat) (q0_members : Nat) (q0_steps : Nat) (q1 : Nat) (q1_snow : Nat) (q1_path : Nat) (q1_debt : Nat) (i_size : Int32) (i_least : Int32) (a_members : Nat → Int32) (i_p1_now : Int32) (a_p1_debt : Nat → Int32) : va_W := [(q0, .inr (3, [.ref q0_members, .ref q0_steps, .int i_size, .int i_least])), (q0_members, .inl (E.2.1, 7, .inl a_members)), (q1, .inr (5, [.ref q1_snow, .ref q1_path, .ref q1_debt, .int i_p1_now])), (q1_debt, .inl (E.2.1, 49, .inl a_p1_debt))]
set_option maxHeartbeats 4000000 in
set_option maxRecDepth 20000 in
theorem kX3_clearIn (l : Launch) (E : ENV) (q0 : Nat) (q0_members : Nat) (q0_steps : Nat) (q1 : Nat) (q1_snow : Nat) (q1_path : Nat) (q1_debt : Nat) (i_size : Int32) (i_least : Int32) (a_members : Nat → Int32) (i_p1_now : Int32) (a_p1_debt : Nat → Int32) (r9 : Int32) (a_p1_debt9 : Nat → Int32) (hf : fX3_clearIn i_size i_least a_members a_p1_debt = some (r9, a_p1_debt9)) : CI l E yX3_clearIn cX3_clearIn 4 (some .int) 0 [.ref q0, .ref q1] (WX3_clearIn E q0 q0_members q0_steps q1 q1_snow q1_path q1_debt i_size i_least a_members i_p1_now a_p1_debt) (WX3_clearIn E q0 q0_members q0_steps q1 q1_snow q1_path q1_debt i_size i_least a_members i_p1_now a_p1_debt9) r9 := by
  refine begI (by decide +kernel) (Nat.le_of_ble_eq_true rfl) ?_
  intro p e s m args below meth c A Q C hA hret
  have hx := C.1
  have hb := C.2.1
  have L2 : ∀ (n : Nat) (v2 : Int32) (a_p1_debt : Nat → Int32) (o : (Nat → Int32)), fX3_clearIn_L2 i_size i_least a_members n v2 a_p1_debt = some o → (GO p l e 0 s m args below meth c Q E A 4 81 [] [(0, .ref q0)] (WX3_clearIn E q0 q0_members q0_steps q1 q1_snow q1_path q1_debt i_size i_least a_members i_p1_now o)) → GO p l e 0 s m args below meth c Q E A 4 2 [] [(0, .ref q0), (1, .ref q1), (2, .int v2)] (WX3_clearIn E q0 q0_members q0_steps q1 q1_snow q1_path q1_debt i_size i_least a_members i_p1_now a_p1_debt) := by
    intro n
    induction n with
    | zero =>
      intro v2 a_p1_debt o hf
      have hf : none = some o := hf
      cases hf
    | succ n ih =>
      intro v2 a_p1_debt o hf hE
      have J51 : ∀ (v2 : Int32) (s0 : Int32) (a_p1_debt : Nat → Int32), fX3_clearIn_J51 (fX3_clearIn_L2 i_size i_least a_members n) i_least a_members v2 s0 a_p1_debt = some o → GO p l e 0 s m args below meth c Q E A 4 51 [.int s0] [(0, .ref q0), (1, .ref q1), (2, .int v2)] (WX3_clearIn E q0 q0_members q0_steps q1 q1_snow q1_path q1_debt i_size i_least a_members i_p1_now a_p1_debt) := by
        intro v2 s0 a_p1_debt hf H locs ls hl hP hD hS
        unfold fX3_clearIn_J51 at hf
        refine lv_istore_n (lv' := [(3, .int s0), (0, .ref q0), (1, .ref q1), (2, .int v2)]) hx hb dX3_clearIn_51 rfl hl (by decide) rfl (fun ls hl => ?_)
        refine lv_aload_n hx hb dX3_clearIn_52 rfl (lv_at hl 2 rfl) ?_
        refine gf_RX3_49 C hP 2 rfl rfl dX3_clearIn_53 ?_
        refine lv_aload_n hx hb dX3_clearIn_56 rfl (lv_at hl 1 rfl) ?_
        refine gf_RX3_9 C hP 0 rfl rfl dX3_clearIn_57 ?_
        refine lv_iload_n hx hb dX3_clearIn_60 rfl (lv_at hl 3 rfl) ?_
        obtain ⟨g5, hf⟩ := gd_some hf
        refine va_iald hx hb C.2.2.2.2.2.1 hP 1 0 rfl rfl (vin_in g5) dX3_clearIn_61 ?_
        refine lv_bipush (v := 7) hx hb dX3_clearIn_62 (by decide) ?_
        refine lv_imul hx hb dX3_clearIn_64 ?_
        refine lv_iload_n hx hb dX3_clearIn_65 rfl (lv_at hl 0 rfl) ?_
        refine lv_iadd hx hb dX3_clearIn_66 ?_
        refine lv_dup2_11 hx hb dX3_clearIn_67 rfl rfl ?_
        obtain ⟨g6, hf⟩ := gd_some hf
        refine va_iald hx hb C.2.2.2.2.2.1 hP 3 0 rfl rfl (vin_in g6) dX3_clearIn_68 ?_
        refine lv_aload_n hx hb dX3_clearIn_69 rfl (lv_at hl 1 rfl) ?_
        refine gf_RX3_54 C hP 0 rfl rfl dX3_clearIn_70 ?_
        refine lv_isub hx hb dX3_clearIn_73 ?_
        obtain ⟨g7, hf⟩ := gd_some hf
        refine va_iast hx hb C.2.2.2.2.2.1 hP hD hS 3 0 rfl rfl (vin_in g7) dX3_clearIn_74 (fun H locs hP hD hS => ?_)
        have hP : va_P E.1 classes (WX3_clearIn E q0 q0_members q0_steps q1 q1_snow q1_path q1_debt i_size i_least a_members i_p1_now ((upd a_p1_debt ((((((a_members (v2 : Int32).toNatClampNeg)) * 7)) + s0) : Int32).toNatClampNeg ((((a_p1_debt ((((((a_members (v2 : Int32).toNatClampNeg)) * 7)) + s0) : Int32).toNatClampNeg)) - i_least))))) H := hP
        have hD : va_D A (WX3_clearIn E q0 q0_members q0_steps q1 q1_snow q1_path q1_debt i_size i_least a_members i_p1_now ((upd a_p1_debt ((((((a_members (v2 : Int32).toNatClampNeg)) * 7)) + s0) : Int32).toNatClampNeg ((((a_p1_debt ((((((a_members (v2 : Int32).toNatClampNeg)) * 7)) + s0) : Int32).toNatClampNeg)) - i_least))))) := hD
        refine lv_iinc (v := (v2 + 1)) (lv' := [(2, .int ((v2 + 1))), (3, .int s0), (0, .ref q0), (1, .ref q1)]) hx hb dX3_clearIn_75 hl (k := 3) rfl rfl (by decide) rfl (fun ls hl => ?_)
        refine lv_goto (tgt := 2) hx hb dX3_clearIn_78 (by decide) ?_
        exact ih ((v2 + 1)) ((upd a_p1_debt ((((((a_members (v2 : Int32).toNatClampNeg)) * 7)) + s0) : Int32).toNatClampNeg ((((a_p1_debt ((((((a_members (v2 : Int32).toNatClampNeg)) * 7)) + s0) : Int32).toNatClampNeg)) - i_least)))) _ hf hE _ _ _ (lv_sub hl [2, 3, 0] rfl) hP hD hS
      have J45 : ∀ (v2 : Int32) (a_p1_debt : Nat → Int32), fX3_clearIn_J45 (fX3_clearIn_L2 i_size i_least a_members n) i_least a_members v2 a_p1_debt = some o → GO p l e 0 s m args below meth c Q E A 4 45 [] [(0, .ref q0), (1, .ref q1), (2, .int v2)] (WX3_clearIn E q0 q0_members q0_steps q1 q1_snow q1_path q1_debt i_size i_least a_members i_p1_now a_p1_debt) := by
        intro v2 a_p1_debt hf H locs ls hl hP hD hS
        unfold fX3_clearIn_J45 at hf
        refine lv_aload_n hx hb dX3_clearIn_45 rfl (lv_at hl 0 rfl) ?_
        refine gf_RX3_9 C hP 0 rfl rfl dX3_clearIn_46 ?_
        refine lv_iconst (v := 0) hx hb dX3_clearIn_49 (by decide) ?_
        obtain ⟨g4, hf⟩ := gd_some hf
        refine va_iald hx hb C.2.2.2.2.2.1 hP 1 0 rfl rfl (vin_in g4) dX3_clearIn_50 ?_
        exact J51 v2 ((a_members (0 : Int32).toNatClampNeg)) a_p1_debt hf _ _ _ (lv_sub hl [0, 1, 2] rfl) hP hD hS
      intro H locs ls hl hP hD hS
      rw [fX3_clearIn_L2] at hf
      refine lv_iload_n hx hb dX3_clearIn_2 rfl (lv_at hl 2 rfl) ?_
      refine lv_aload_n hx hb dX3_clearIn_3 rfl (lv_at hl 0 rfl) ?_
      refine gf_RX3_18 C hP 0 rfl rfl dX3_clearIn_4 ?_
      refine lv_icmp_ge (tgt := 81) hx hb dX3_clearIn_7 (by decide) (fun c1 => ?_) (fun c1 => ?_)
      · rw [if_pos c1] at hf
        have hf := Option.some.inj hf
        subst hf
        exact hE _ _ _ (lv_sub hl [0] rfl) hP hD hS
      · rw [if_neg c1] at hf
        refine lv_iload_n hx hb dX3_clearIn_10 rfl (lv_at hl 2 rfl) ?_
        refine lv_bipush (v := 7) hx hb dX3_clearIn_11 (by decide) ?_
        refine lv_icmp_ge (tgt := 81) hx hb dX3_clearIn_13 (by decide) (fun c2 => ?_) (fun c2 => ?_)
        · rw [if_pos c2] at hf
          have hf := Option.some.inj hf
          subst hf
          exact hE _ _ _ (lv_sub hl [0] rfl) hP hD hS
        · rw [if_neg c2] at hf
          refine lv_iload_n hx hb dX3_clearIn_16 rfl (lv_at hl 2 rfl) ?_
          refine lv_iconst (v := 1) hx hb dX3_clearIn_17 (by decide) ?_
          refine lv_iadd hx hb dX3_clearIn_18 ?_
          refine lv_aload_n hx hb dX3_clearIn_19 rfl (lv_at hl 0 rfl) ?_
          refine gf_RX3_18 C hP 0 rfl rfl dX3_clearIn_20 ?_
          refine lv_icmp_ge (tgt := 45) hx hb dX3_clearIn_23 (by decide) (fun c3 => ?_) (fun c3 => ?_)
          · rw [if_pos c3] at hf
            exact J45 v2 a_p1_debt hf _ _ _ (lv_sub hl [0, 1, 2] rfl) hP hD hS
          · rw [if_neg c3] at hf
            refine lv_iload_n hx hb dX3_clearIn_26 rfl (lv_at hl 2 rfl) ?_
            refine lv_iconst (v := 1) hx hb dX3_clearIn_27 (by decide) ?_
            refine lv_iadd hx hb dX3_clearIn_28 ?_
            refine lv_bipush (v := 7) hx hb dX3_clearIn_29 (by decide) ?_
            refine lv_icmp_ge (tgt := 45) hx hb dX3_clearIn_31 (by decide) (fun c8 => ?_) (fun c8 => ?_)
            · rw [if_pos c8] at hf
              exact J45 v2 a_p1_debt hf _ _ _ (lv_sub hl [0, 1, 2] rfl) hP hD hS
            · rw [if_neg c8] at hf
              refine lv_aload_n hx hb dX3_clearIn_34 rfl (lv_at hl 0 rfl) ?_
              refine gf_RX3_9 C hP 0 rfl rfl dX3_clearIn_35 ?_
              refine lv_iload_n hx hb dX3_clearIn_38 rfl (lv_at hl 2 rfl) ?_
              refine lv_iconst (v := 1) hx hb dX3_clearIn_39 (by decide) ?_
              refine lv_iadd hx hb dX3_clearIn_40 ?_
              obtain ⟨g9, hf⟩ := gd_some hf
              refine va_iald hx hb C.2.2.2.2.2.1 hP 1 0 rfl rfl (vin_in g9) dX3_clearIn_41 ?_
              refine lv_goto (tgt := 51) hx hb dX3_clearIn_42 (by decide) ?_
              exact J51 v2 ((a_members ((v2 + 1) : Int32).toNatClampNeg)) a_p1_debt hf _ _ _ (lv_sub hl [0, 1, 2] rfl) hP hD hS
  intro H locs ls hl hP hD hS
  have hl : lv_has ls 4 [(0, .ref q0), (1, .ref q1)] := hl
  unfold fX3_clearIn at hf
  refine lv_iconst (v := 0) hx hb dX3_clearIn_0 (by decide) ?_
  refine lv_istore_n (lv' := [(2, .int 0), (0, .ref q0), (1, .ref q1)]) hx hb dX3_clearIn_1 rfl hl (by decide) rfl (fun ls hl => ?_)
  obtain ⟨o10, hg11, hf⟩ := bd_some hf
  refine L2 FU 0 a_p1_debt o10 hg11 ?_ _ _ _ (lv_sub hl [1, 2, 0] rfl) hP hD hS
  intro H locs ls hl hP hD hS
  refine lv_aload_n hx hb dX3_clearIn_81 rfl (lv_at hl 0 rfl) ?_
  refine gf_RX3_54 C hP 0 rfl rfl dX3_clearIn_82 ?_
  refine lv_aload_n hx hb dX3_clearIn_85 rfl (lv_at hl 0 rfl) ?_
  refine gf_RX3_18 C hP 0 rfl rfl dX3_clearIn_86 ?_
  refine lv_imul hx hb dX3_clearIn_89 ?_
  have hj0 := Option.some.inj hf
  obtain ⟨ha0, hj1⟩ := Prod.mk.inj hj0
  subst ha0
  subst hj1
  exact hret _ _ _ _ dX3_clearIn_90 rfl hP hD hS
theorem K_RX9_41 : KV RX9 41 yX9_beginAt cX9_beginAt 2 none 1 := ⟨Tg_mem 1042 (by decide +kernel) (by decide +kernel), Tg_mem 96 (by decide +kernel) (by decide +kernel), Tg_mem 1039 (by decide +kernel) (by decide +kernel), Tg_mem 1040 (by decide +kernel) (by decide +kernel), Tg_mem 1041 (by decide +kernel) (by decide +kernel), by decide +kernel⟩
theorem K_RX9_44 : KV RX9 44 yX9_goDay cX9_goDay 5 none 0 := ⟨Tg_mem 787 (by decide +kernel) (by decide +kernel), Tg_mem 96 (by decide +kernel) (by decide +kernel), Tg_mem 784 (by decide +kernel) (by decide +kernel), Tg_mem 785 (by decide +kernel) (by decide +kernel), Tg_mem 786 (by decide +kernel) (by decide +kernel), by decide +kernel⟩
theorem dX9_walkFrom_0 : decode cX9_walkFrom 0 = .ok (.aload_n 0, 1) := by decide +kernel
theorem dX9_walkFrom_1 : decode cX9_walkFrom 1 = .ok (.aload_n 1, 1) := by decide +kernel
theorem dX9_walkFrom_2 : decode cX9_walkFrom 2 = .ok (.invokevirtual 41, 3) := by decide +kernel
theorem dX9_walkFrom_5 : decode cX9_walkFrom 5 = .ok (.iconst 0, 1) := by decide +kernel
theorem dX9_walkFrom_6 : decode cX9_walkFrom 6 = .ok (.istore_n 3, 1) := by decide +kernel
theorem dX9_walkFrom_7 : decode cX9_walkFrom 7 = .ok (.iload_n 3, 1) := by decide +kernel
theorem dX9_walkFrom_8 : decode cX9_walkFrom 8 = .ok (.iload_n 2, 1) := by decide +kernel
theorem dX9_walkFrom_9 : decode cX9_walkFrom 9 = .ok (.if_icmp .ge 13, 3) := by decide +kernel
theorem dX9_walkFrom_12 : decode cX9_walkFrom 12 = .ok (.aload_n 0, 1) := by decide +kernel
theorem dX9_walkFrom_13 : decode cX9_walkFrom 13 = .ok (.invokevirtual 44, 3) := by decide +kernel
theorem dX9_walkFrom_16 : decode cX9_walkFrom 16 = .ok (.iinc 3 1, 3) := by decide +kernel
theorem dX9_walkFrom_19 : decode cX9_walkFrom 19 = .ok (.goto (-12), 3) := by decide +kernel
theorem dX9_walkFrom_22 : decode cX9_walkFrom 22 = .ok (.return_, 1) := by decide +kernel
def WX9_walkFrom (E : ENV) (q0 : Nat) (q0_town : Nat) (q0_weather : Nat) (q0_rule : Nat) (q0_state : Nat) (q0_owedBy : Nat) (q0_state_snow : Nat) (q0_state_path : Nat) (q0_state_debt : Nat) (q0_weather_inches : Nat) (q0_town_hold : Nat) (q0_town_below : Nat) (q0_town_hay : Nat) (q0_rule_code : Nat) (q0_rule_draft : Nat) (q0_rule_stack : Nat) (q0_rule_things : Nat) (q1 : Nat) (q1_snow : Nat) (q1_path : Nat) (q1_debt : Nat) (i_owed : Int32) (i_slides : Int32) (i_struck : Int32) (i_slid : Int32) (i_state_now : Int32) (a_state_snow : Nat → Int32) (a_state_path : Nat → Int32) (a_state_debt : Nat → Int32) (a_owedBy : Nat → Int32) (i_weather_length : Int32) (i_weather_cycle : Int32) (i_town_houses : Int32) (i_rule_length : Int32) (i_rule_drafted : Int32) (a_weather_inches : Nat → Int32) (a_town_hold : Nat → Int32) (a_town_below : Nat → Int32) (a_rule_things : Nat → Int32) (a_rule_stack : Nat → Int32) (a_rule_code : Nat → Int32) (i_p1_now : Int32) (a_p1_snow : Nat → Int32) (a_p1_path : Nat → Int32) (a_p1_debt : Nat → Int32) : va_W := [(q0, .inr (9, [.ref q0_town, .ref q0_weather, .ref q0_rule, .ref q0_state, .ref q0_owedBy, .int i_owed, .int i_slides, .int i_struck, .int i_slid])), (q0_state, .inr (5, [.ref q0_state_snow, .ref q0_state_path, .ref q0_state_debt, .int i_state_now])), (q0_state_snow, .inl (E.2.1, 14, .inl a_state_snow)), (q0_state_path, .inl (E.2.1, 7, .inl a_state_path)), (q0_state_debt, .inl (E.2.1, 49, .inl a_state_debt)), (q0_owedBy, .inl (E.2.1, 7, .inl a_owedBy)), (q0_weather, .inr (10, [.ref q0_weather_inches, .int i_weather_length, .int i_weather_cycle])), (q0_town, .inr (7, [.ref q0_town_hold, .ref q0_town_below, .ref q0_town_hay, .int i_town_houses])), (q0_rule, .inr (4, [.ref q0_rule_code, .ref q0_rule_draft, .ref q0_rule_stack, .ref q0_rule_things, .int i_rule_length, .int i_rule_drafted])), (q0_weather_inches, .inl (E.2.1, 40, .inl a_weather_inches)), (q0_town_hold, .inl (E.2.1, 7, .inl a_town_hold)), (q0_town_below, .inl (E.2.1, 14, .inl a_town_below)), (q0_rule_things, .inl (E.2.1, 8, .inl a_rule_things)), (q0_rule_stack, .inl (E.2.1, 40, .inl a_rule_stack)), (q0_rule_code, .inl (E.2.1, 40, .inl a_rule_code)), (q1, .inr (5, [.ref q1_snow, .ref q1_path, .ref q1_debt, .int i_p1_now])), (q1_snow, .inl (E.2.1, 14, .inl a_p1_snow)), (q1_path, .inl (E.2.1, 7, .inl a_p1_path)), (q1_debt, .inl (E.2.1, 49, .inl a_p1_debt))]
set_option maxHeartbeats 4000000 in
set_option maxRecDepth 20000 in
theorem kX9_walkFrom (l : Launch) (E : ENV) (q0 : Nat) (q0_town : Nat) (q0_weather : Nat) (q0_rule : Nat) (q0_state : Nat) (q0_owedBy : Nat) (q0_state_snow : Nat) (q0_state_path : Nat) (q0_state_debt : Nat) (q0_weather_inches : Nat) (q0_town_hold : Nat) (q0_town_below : Nat) (q0_town_hay : Nat) (q0_rule_code : Nat) (q0_rule_draft : Nat) (q0_rule_stack : Nat) (q0_rule_things : Nat) (q1 : Nat) (q1_snow : Nat) (q1_path : Nat) (q1_debt : Nat) (i_owed : Int32) (i_slides : Int32) (i_struck : Int32) (i_slid : Int32) (i_state_now : Int32) (a_state_snow : Nat → Int32) (a_state_path : Nat → Int32) (a_state_debt : Nat → Int32) (a_owedBy : Nat → Int32) (i_weather_length : Int32) (i_weather_cycle : Int32) (i_town_houses : Int32) (i_rule_length : Int32) (i_rule_drafted : Int32) (a_weather_inches : Nat → Int32) (a_town_hold : Nat → Int32) (a_town_below : Nat → Int32) (a_rule_things : Nat → Int32) (a_rule_stack : Nat → Int32) (a_rule_code : Nat → Int32) (i_p1_now : Int32) (a_p1_snow : Nat → Int32) (a_p1_path : Nat → Int32) (a_p1_debt : Nat → Int32) (p2 : Int32) (i_owed9 : Int32) (i_slides9 : Int32) (i_struck9 : Int32) (i_slid9 : Int32) (i_state_now9 : Int32) (a_state_snow9 : Nat → Int32) (a_state_path9 : Nat → Int32) (a_state_debt9 : Nat → Int32) (a_owedBy9 : Nat → Int32) (a_rule_things9 : Nat → Int32) (a_rule_stack9 : Nat → Int32) (hf : fX9_walkFrom i_owed i_slides i_struck i_slid i_state_now a_state_snow a_state_path a_state_debt a_owedBy i_weather_cycle i_town_houses i_rule_length a_weather_inches a_town_hold a_town_below a_rule_things a_rule_stack a_rule_code i_p1_now a_p1_snow a_p1_path a_p1_debt p2 = some (i_owed9, i_slides9, i_struck9, i_slid9, i_state_now9, a_state_snow9, a_state_path9, a_state_debt9, a_owedBy9, a_rule_things9, a_rule_stack9)) : CV l E yX9_walkFrom cX9_walkFrom 4 4 [.ref q0, .ref q1, .int p2] (WX9_walkFrom E q0 q0_town q0_weather q0_rule q0_state q0_owedBy q0_state_snow q0_state_path q0_state_debt q0_weather_inches q0_town_hold q0_town_below q0_town_hay q0_rule_code q0_rule_draft q0_rule_stack q0_rule_things q1 q1_snow q1_path q1_debt i_owed i_slides i_struck i_slid i_state_now a_state_snow a_state_path a_state_debt a_owedBy i_weather_length i_weather_cycle i_town_houses i_rule_length i_rule_drafted a_weather_inches a_town_hold a_town_below a_rule_things a_rule_stack a_rule_code i_p1_now a_p1_snow a_p1_path a_p1_debt) (WX9_walkFrom E q0 q0_town q0_weather q0_rule q0_state q0_owedBy q0_state_snow q0_state_path q0_state_debt q0_weather_inches q0_town_hold q0_town_below q0_town_hay q0_rule_code q0_rule_draft q0_rule_stack q0_rule_things q1 q1_snow q1_path q1_debt i_owed9 i_slides9 i_struck9 i_slid9 i_state_now9 a_state_snow9 a_state_path9 a_state_debt9 a_owedBy9 i_weather_length i_weather_cycle i_town_houses i_rule_length i_rule_drafted a_weather_inches a_town_hold a_town_below a_rule_things9 a_rule_stack9 a_rule_code i_p1_now a_p1_snow a_p1_path a_p1_debt) := by
  refine begV (by decide +kernel) (Nat.le_of_ble_eq_true rfl) ?_
  intro p e s m args below meth c A Q C hA hret
  have hx := C.1
  have hb := C.2.1
  have L7 : ∀ (n : Nat) (v3 : Int32) (i_owed : Int32) (i_slides : Int32) (i_struck : Int32) (i_slid : Int32) (i_state_now : Int32) (a_state_snow : Nat → Int32) (a_state_path : Nat → Int32) (a_state_debt : Nat → Int32) (a_owedBy : Nat → Int32) (a_rule_things : Nat → Int32) (a_rule_stack : Nat → Int32) (o : Int32 × Int32 × Int32 × Int32 × Int32 × (Nat → Int32) × (Nat → Int32) × (Nat → Int32) × (Nat → Int32) × (Nat → Int32) × (Nat → Int32)), fX9_walkFrom_L7 i_weather_cycle i_town_houses i_rule_length a_weather_inches a_town_hold a_town_below a_rule_code p2 n v3 i_owed i_slides i_struck i_slid i_state_now a_state_snow a_state_path a_state_debt a_owedBy a_rule_things a_rule_stack = some o → (GO p l e 4 s m args below meth c Q E A 4 22 [] [] (WX9_walkFrom E q0 q0_town q0_weather q0_rule q0_state q0_owedBy q0_state_snow q0_state_path q0_state_debt q0_weather_inches q0_town_hold q0_town_below q0_town_hay q0_rule_code q0_rule_draft q0_rule_stack q0_rule_things q1 q1_snow q1_path q1_debt o.1 o.2.1 o.2.2.1 o.2.2.2.1 o.2.2.2.2.1 o.2.2.2.2.2.1 o.2.2.2.2.2.2.1 o.2.2.2.2.2.2.2.1 o.2.2.2.2.2.2.2.2.1 i_weather_length i_weather_cycle i_town_houses i_rule_length i_rule_drafted a_weather_inches a_town_hold a_town_below o.2.2.2.2.2.2.2.2.2.1 o.2.2.2.2.2.2.2.2.2.2 a_rule_code i_p1_now a_p1_snow a_p1_path a_p1_debt)) → GO p l e 4 s m args below meth c Q E A 4 7 [] [(0, .ref q0), (2, .int p2), (3, .int v3)] (WX9_walkFrom E q0 q0_town q0_weather q0_rule q0_state q0_owedBy q0_state_snow q0_state_path q0_state_debt q0_weather_inches q0_town_hold q0_town_below q0_town_hay q0_rule_code q0_rule_draft q0_rule_stack q0_rule_things q1 q1_snow q1_path q1_debt i_owed i_slides i_struck i_slid i_state_now a_state_snow a_state_path a_state_debt a_owedBy i_weather_length i_weather_cycle i_town_houses i_rule_length i_rule_drafted a_weather_inches a_town_hold a_town_below a_rule_things a_rule_stack a_rule_code i_p1_now a_p1_snow a_p1_path a_p1_debt) := by
    intro n
    induction n with
    | zero =>
      intro v3 i_owed i_slides i_struck i_slid i_state_now a_state_snow a_state_path a_state_debt a_owedBy a_rule_things a_rule_stack o hf
      have hf : none = some o := hf
      cases hf
    | succ n ih =>
      intro v3 i_owed i_slides i_struck i_slid i_state_now a_state_snow a_state_path a_state_debt a_owedBy a_rule_things a_rule_stack o hf hE
      intro H locs ls hl hP hD hS
      rw [fX9_walkFrom_L7] at hf
      refine lv_iload_n hx hb dX9_walkFrom_7 rfl (lv_at hl 2 rfl) ?_
      refine lv_iload_n hx hb dX9_walkFrom_8 rfl (lv_at hl 1 rfl) ?_
      refine lv_icmp_ge (tgt := 22) hx hb dX9_walkFrom_9 (by decide) (fun c3 => ?_) (fun c3 => ?_)
      · rw [if_pos c3] at hf
        have hf := Option.some.inj hf
        subst hf
        exact hE _ _ _ (lv_sub hl [] rfl) hP hD hS
      · rw [if_neg c3] at hf
        refine lv_aload_n hx hb dX9_walkFrom_12 rfl (lv_at hl 0 rfl) ?_
        obtain ⟨o4, hg5, hf⟩ := bd_some hf
        refine k_VV (As := []) C K_RX9_44 (Nat.le_of_ble_eq_true rfl) (Nat.le_of_ble_eq_true rfl) (kX9_goDay l E q0 q0_town q0_weather q0_rule q0_state q0_owedBy q0_state_snow q0_state_path q0_state_debt q0_weather_inches q0_town_hold q0_town_below q0_town_hay q0_rule_code q0_rule_draft q0_rule_stack q0_rule_things i_owed i_slides i_struck i_slid i_state_now i_weather_length i_weather_cycle a_weather_inches i_town_houses a_state_snow a_state_path a_town_hold a_town_below i_rule_length i_rule_drafted a_rule_things a_rule_stack a_rule_code a_state_debt a_owedBy o4.1 o4.2.1 o4.2.2.1 o4.2.2.2.1 o4.2.2.2.2.1 o4.2.2.2.2.2.1 o4.2.2.2.2.2.2.1 o4.2.2.2.2.2.2.2.1 o4.2.2.2.2.2.2.2.2.1 o4.2.2.2.2.2.2.2.2.2.1 o4.2.2.2.2.2.2.2.2.2.2 hg5) [0, 1, 6, 9, 7, 2, 3, 10, 11, 8, 12, 13, 14, 4, 5] rfl rfl rfl (ci := 9) rfl rfl (q0 := 0) rfl hP hD hS hA hl.1 (Nat.le_of_ble_eq_true rfl) rfl dX9_walkFrom_13 (fun H locs hP hD hS => ?_)
        have hP : va_P E.1 classes (WX9_walkFrom E q0 q0_town q0_weather q0_rule q0_state q0_owedBy q0_state_snow q0_state_path q0_state_debt q0_weather_inches q0_town_hold q0_town_below q0_town_hay q0_rule_code q0_rule_draft q0_rule_stack q0_rule_things q1 q1_snow q1_path q1_debt o4.1 o4.2.1 o4.2.2.1 o4.2.2.2.1 o4.2.2.2.2.1 o4.2.2.2.2.2.1 o4.2.2.2.2.2.2.1 o4.2.2.2.2.2.2.2.2.2.1 o4.2.2.2.2.2.2.2.2.2.2 i_weather_length i_weather_cycle i_town_houses i_rule_length i_rule_drafted a_weather_inches a_town_hold a_town_below o4.2.2.2.2.2.2.2.1 o4.2.2.2.2.2.2.2.2.1 a_rule_code i_p1_now a_p1_snow a_p1_path a_p1_debt) H := hP
        have hD : va_D A (WX9_walkFrom E q0 q0_town q0_weather q0_rule q0_state q0_owedBy q0_state_snow q0_state_path q0_state_debt q0_weather_inches q0_town_hold q0_town_below q0_town_hay q0_rule_code q0_rule_draft q0_rule_stack q0_rule_things q1 q1_snow q1_path q1_debt o4.1 o4.2.1 o4.2.2.1 o4.2.2.2.1 o4.2.2.2.2.1 o4.2.2.2.2.2.1 o4.2.2.2.2.2.2.1 o4.2.2.2.2.2.2.2.2.2.1 o4.2.2.2.2.2.2.2.2.2.2 i_weather_length i_weather_cycle i_town_houses i_rule_length i_rule_drafted a_weather_inches a_town_hold a_town_below o4.2.2.2.2.2.2.2.1 o4.2.2.2.2.2.2.2.2.1 a_rule_code i_p1_now a_p1_snow a_p1_path a_p1_debt) := hD
        refine lv_iinc (v := (v3 + 1)) (lv' := [(3, .int ((v3 + 1))), (0, .ref q0), (2, .int p2)]) hx hb dX9_walkFrom_16 hl (k := 2) rfl rfl (by decide) rfl (fun ls hl => ?_)
        refine lv_goto (tgt := 7) hx hb dX9_walkFrom_19 (by decide) ?_
        exact ih ((v3 + 1)) o4.1 o4.2.1 o4.2.2.1 o4.2.2.2.1 o4.2.2.2.2.1 o4.2.2.2.2.2.1 o4.2.2.2.2.2.2.1 o4.2.2.2.2.2.2.2.2.2.1 o4.2.2.2.2.2.2.2.2.2.2 o4.2.2.2.2.2.2.2.1 o4.2.2.2.2.2.2.2.2.1 _ hf hE _ _ _ (lv_sub hl [1, 2, 0] rfl) hP hD hS
  intro H locs ls hl hP hD hS
  have hl : lv_has ls 4 [(0, .ref q0), (1, .ref q1), (2, .int p2)] := hl
  unfold fX9_walkFrom at hf
  refine lv_aload_n hx hb dX9_walkFrom_0 rfl (lv_at hl 0 rfl) ?_
  refine lv_aload_n hx hb dX9_walkFrom_1 rfl (lv_at hl 1 rfl) ?_
  obtain ⟨o1, hg2, hf⟩ := bd_some hf
  refine k_VV (As := [.ref q1]) C K_RX9_41 (Nat.le_of_ble_eq_true rfl) (Nat.le_of_ble_eq_true rfl) (kX9_beginAt l E q0 q0_town q0_weather q0_rule q0_state q0_owedBy q0_state_snow q0_state_path q0_state_debt q1 q1_snow q1_path q1_debt i_owed i_slides i_struck i_slid i_state_now a_state_snow a_state_path a_state_debt a_owedBy i_p1_now a_p1_snow a_p1_path a_p1_debt o1.1 o1.2.1 o1.2.2.1 o1.2.2.2.1 o1.2.2.2.2.1 o1.2.2.2.2.2.1 o1.2.2.2.2.2.2.1 o1.2.2.2.2.2.2.2.1 o1.2.2.2.2.2.2.2.2 hg2) [0, 1, 2, 3, 4, 5, 15, 16, 17, 18] rfl rfl rfl (ci := 9) rfl rfl (q0 := 0) rfl hP hD hS hA hl.1 (Nat.le_of_ble_eq_true rfl) rfl dX9_walkFrom_2 (fun H locs hP hD hS => ?_)
  have hP : va_P E.1 classes (WX9_walkFrom E q0 q0_town q0_weather q0_rule q0_state q0_owedBy q0_state_snow q0_state_path q0_state_debt q0_weather_inches q0_town_hold q0_town_below q0_town_hay q0_rule_code q0_rule_draft q0_rule_stack q0_rule_things q1 q1_snow q1_path q1_debt o1.1 o1.2.1 o1.2.2.1 o1.2.2.2.1 o1.2.2.2.2.1 o1.2.2.2.2.2.1 o1.2.2.2.2.2.2.1 o1.2.2.2.2.2.2.2.1 o1.2.2.2.2.2.2.2.2 i_weather_length i_weather_cycle i_town_houses i_rule_length i_rule_drafted a_weather_inches a_town_hold a_town_below a_rule_things a_rule_stack a_rule_code i_p1_now a_p1_snow a_p1_path a_p1_debt) H := hP
  have hD : va_D A (WX9_walkFrom E q0 q0_town q0_weather q0_rule q0_state q0_owedBy q0_state_snow q0_state_path q0_state_debt q0_weather_inches q0_town_hold q0_town_below q0_town_hay q0_rule_code q0_rule_draft q0_rule_stack q0_rule_things q1 q1_snow q1_path q1_debt o1.1 o1.2.1 o1.2.2.1 o1.2.2.2.1 o1.2.2.2.2.1 o1.2.2.2.2.2.1 o1.2.2.2.2.2.2.1 o1.2.2.2.2.2.2.2.1 o1.2.2.2.2.2.2.2.2 i_weather_length i_weather_cycle i_town_houses i_rule_length i_rule_drafted a_weather_inches a_town_hold a_town_below a_rule_things a_rule_stack a_rule_code i_p1_now a_p1_snow a_p1_path a_p1_debt) := hD
  refine lv_iconst (v := 0) hx hb dX9_walkFrom_5 (by decide) ?_
  refine lv_istore_n (lv' := [(3, .int 0), (0, .ref q0), (1, .ref q1), (2, .int p2)]) hx hb dX9_walkFrom_6 rfl hl (by decide) rfl (fun ls hl => ?_)
  obtain ⟨o6, hg7, hf⟩ := bd_some hf
  refine L7 FU 0 o1.1 o1.2.1 o1.2.2.1 o1.2.2.2.1 o1.2.2.2.2.1 o1.2.2.2.2.2.1 o1.2.2.2.2.2.2.1 o1.2.2.2.2.2.2.2.1 o1.2.2.2.2.2.2.2.2 a_rule_things a_rule_stack o6 hg7 ?_ _ _ _ (lv_sub hl [1, 3, 0] rfl) hP hD hS
  intro H locs ls hl hP hD hS
  have hj0 := Option.some.inj hf
  obtain ⟨ha0, hj1⟩ := Prod.mk.inj hj0
  obtain ⟨ha1, hj2⟩ := Prod.mk.inj hj1
  obtain ⟨ha2, hj3⟩ := Prod.mk.inj hj2
  obtain ⟨ha3, hj4⟩ := Prod.mk.inj hj3
  obtain ⟨ha4, hj5⟩ := Prod.mk.inj hj4
  obtain ⟨ha5, hj6⟩ := Prod.mk.inj hj5
  obtain ⟨ha6, hj7⟩ := Prod.mk.inj hj6
  obtain ⟨ha7, hj8⟩ := Prod.mk.inj hj7
  obtain ⟨ha8, hj9⟩ := Prod.mk.inj hj8
  obtain ⟨ha9, hj10⟩ := Prod.mk.inj hj9
  subst ha0
  subst ha1
  subst ha2
  subst ha3
  subst ha4
  subst ha5
  subst ha6
  subst ha7
  subst ha8
  subst ha9
  subst hj10
  exact hret _ _ _ _ dX9_walkFrom_22 hP hD hS
theorem dX9_goDays_0 : decode cX9_goDays 0 = .ok (.iconst 0, 1) := by decide +kernel
theorem dX9_goDays_1 : decode cX9_goDays 1 = .ok (.istore_n 2, 1) := by decide +kernel
theorem dX9_goDays_2 : decode cX9_goDays 2 = .ok (.iload_n 2, 1) := by decide +kernel
theorem dX9_goDays_3 : decode cX9_goDays 3 = .ok (.iload_n 1, 1) := by decide +kernel
theorem dX9_goDays_4 : decode cX9_goDays 4 = .ok (.if_icmp .ge 13, 3) := by decide +kernel
theorem dX9_goDays_7 : decode cX9_goDays 7 = .ok (.aload_n 0, 1) := by decide +kernel
theorem dX9_goDays_8 : decode cX9_goDays 8 = .ok (.invokevirtual 44, 3) := by decide +kernel
theorem dX9_goDays_11 : decode cX9_goDays 11 = .ok (.iinc 2 1, 3) := by decide +kernel
theorem dX9_goDays_14 : decode cX9_goDays 14 = .ok (.goto (-12), 3) := by decide +kernel
theorem dX9_goDays_17 : decode cX9_goDays 17 = .ok (.return_, 1) := by decide +kernel
def WX9_goDays (E : ENV) (q0 : Nat) (q0_town : Nat) (q0_weather : Nat) (q0_rule : Nat) (q0_state : Nat) (q0_owedBy : Nat) (q0_state_snow : Nat) (q0_state_path : Nat) (q0_state_debt : Nat) (q0_weather_inches : Nat) (q0_town_hold : Nat) (q0_town_below : Nat) (q0_town_hay : Nat) (q0_rule_code : Nat) (q0_rule_draft : Nat) (q0_rule_stack : Nat) (q0_rule_things : Nat) (i_owed : Int32) (i_slides : Int32) (i_struck : Int32) (i_slid : Int32) (i_state_now : Int32) (i_weather_length : Int32) (i_weather_cycle : Int32) (i_town_houses : Int32) (i_rule_length : Int32) (i_rule_drafted : Int32) (a_weather_inches : Nat → Int32) (a_state_snow : Nat → Int32) (a_state_path : Nat → Int32) (a_town_hold : Nat → Int32) (a_town_below : Nat → Int32) (a_rule_things : Nat → Int32) (a_rule_stack : Nat → Int32) (a_rule_code : Nat → Int32) (a_state_debt : Nat → Int32) (a_owedBy : Nat → Int32) : va_W := [(q0, .inr (9, [.ref q0_town, .ref q0_weather, .ref q0_rule, .ref q0_state, .ref q0_owedBy, .int i_owed, .int i_slides, .int i_struck, .int i_slid])), (q0_state, .inr (5, [.ref q0_state_snow, .ref q0_state_path, .ref q0_state_debt, .int i_state_now])), (q0_weather, .inr (10, [.ref q0_weather_inches, .int i_weather_length, .int i_weather_cycle])), (q0_town, .inr (7, [.ref q0_town_hold, .ref q0_town_below, .ref q0_town_hay, .int i_town_houses])), (q0_rule, .inr (4, [.ref q0_rule_code, .ref q0_rule_draft, .ref q0_rule_stack, .ref q0_rule_things, .int i_rule_length, .int i_rule_drafted])), (q0_weather_inches, .inl (E.2.1, 40, .inl a_weather_inches)), (q0_state_snow, .inl (E.2.1, 14, .inl a_state_snow)), (q0_state_path, .inl (E.2.1, 7, .inl a_state_path)), (q0_town_hold, .inl (E.2.1, 7, .inl a_town_hold)), (q0_town_below, .inl (E.2.1, 14, .inl a_town_below)), (q0_rule_things, .inl (E.2.1, 8, .inl a_rule_things)), (q0_rule_stack, .inl (E.2.1, 40, .inl a_rule_stack)), (q0_rule_code, .inl (E.2.1, 40, .inl a_rule_code)), (q0_state_debt, .inl (E.2.1, 49, .inl a_state_debt)), (q0_owedBy, .inl (E.2.1, 7, .inl a_owedBy))]
set_option maxHeartbeats 4000000 in
set_option maxRecDepth 20000 in
theorem kX9_goDays (l : Launch) (E : ENV) (q0 : Nat) (q0_town : Nat) (q0_weather : Nat) (q0_rule : Nat) (q0_state : Nat) (q0_owedBy : Nat) (q0_state_snow : Nat) (q0_state_path : Nat) (q0_state_debt : Nat) (q0_weather_inches : Nat) (q0_town_hold : Nat) (q0_town_below : Nat) (q0_town_hay : Nat) (q0_rule_code : Nat) (q0_rule_draft : Nat) (q0_rule_stack : Nat) (q0_rule_things : Nat) (i_owed : Int32) (i_slides : Int32) (i_struck : Int32) (i_slid : Int32) (i_state_now : Int32) (i_weather_length : Int32) (i_weather_cycle : Int32) (i_town_houses : Int32) (i_rule_length : Int32) (i_rule_drafted : Int32) (a_weather_inches : Nat → Int32) (a_state_snow : Nat → Int32) (a_state_path : Nat → Int32) (a_town_hold : Nat → Int32) (a_town_below : Nat → Int32) (a_rule_things : Nat → Int32) (a_rule_stack : Nat → Int32) (a_rule_code : Nat → Int32) (a_state_debt : Nat → Int32) (a_owedBy : Nat → Int32) (p1 : Int32) (i_owed9 : Int32) (i_slides9 : Int32) (i_struck9 : Int32) (i_slid9 : Int32) (i_state_now9 : Int32) (a_state_snow9 : Nat → Int32) (a_state_path9 : Nat → Int32) (a_rule_things9 : Nat → Int32) (a_rule_stack9 : Nat → Int32) (a_state_debt9 : Nat → Int32) (a_owedBy9 : Nat → Int32) (hf : fX9_goDays i_owed i_slides i_struck i_slid i_state_now i_weather_cycle i_town_houses i_rule_length a_weather_inches a_state_snow a_state_path a_town_hold a_town_below a_rule_things a_rule_stack a_rule_code a_state_debt a_owedBy p1 = some (i_owed9, i_slides9, i_struck9, i_slid9, i_state_now9, a_state_snow9, a_state_path9, a_rule_things9, a_rule_stack9, a_state_debt9, a_owedBy9)) : CV l E yX9_goDays cX9_goDays 3 4 [.ref q0, .int p1] (WX9_goDays E q0 q0_town q0_weather q0_rule q0_state q0_owedBy q0_state_snow q0_state_path q0_state_debt q0_weather_inches q0_town_hold q0_town_below q0_town_hay q0_rule_code q0_rule_draft q0_rule_stack q0_rule_things i_owed i_slides i_struck i_slid i_state_now i_weather_length i_weather_cycle i_town_houses i_rule_length i_rule_drafted a_weather_inches a_state_snow a_state_path a_town_hold a_town_below a_rule_things a_rule_stack a_rule_code a_state_debt a_owedBy) (WX9_goDays E q0 q0_town q0_weather q0_rule q0_state q0_owedBy q0_state_snow q0_state_path q0_state_debt q0_weather_inches q0_town_hold q0_town_below q0_town_hay q0_rule_code q0_rule_draft q0_rule_stack q0_rule_things i_owed9 i_slides9 i_struck9 i_slid9 i_state_now9 i_weather_length i_weather_cycle i_town_houses i_rule_length i_rule_drafted a_weather_inches a_state_snow9 a_state_path9 a_town_hold a_town_below a_rule_things9 a_rule_stack9 a_rule_code a_state_debt9 a_owedBy9) := by
  refine begV (by decide +kernel) (Nat.le_of_ble_eq_true rfl) ?_
  intro p e s m args below meth c A Q C hA hret
  have hx := C.1
  have hb := C.2.1
  have L2 : ∀ (n : Nat) (v2 : Int32) (i_owed : Int32) (i_slides : Int32) (i_struck : Int32) (i_slid : Int32) (i_state_now : Int32) (a_state_snow : Nat → Int32) (a_state_path : Nat → Int32) (a_rule_things : Nat → Int32) (a_rule_stack : Nat → Int32) (a_state_debt : Nat → Int32) (a_owedBy : Nat → Int32) (o : Int32 × Int32 × Int32 × Int32 × Int32 × (Nat → Int32) × (Nat → Int32) × (Nat → Int32) × (Nat → Int32) × (Nat → Int32) × (Nat → Int32)), fX9_goDays_L2 i_weather_cycle i_town_houses i_rule_length a_weather_inches a_town_hold a_town_below a_rule_code p1 n v2 i_owed i_slides i_struck i_slid i_state_now a_state_snow a_state_path a_rule_things a_rule_stack a_state_debt a_owedBy = some o → (GO p l e 4 s m args below meth c Q E A 3 17 [] [] (WX9_goDays E q0 q0_town q0_weather q0_rule q0_state q0_owedBy q0_state_snow q0_state_path q0_state_debt q0_weather_inches q0_town_hold q0_town_below q0_town_hay q0_rule_code q0_rule_draft q0_rule_stack q0_rule_things o.1 o.2.1 o.2.2.1 o.2.2.2.1 o.2.2.2.2.1 i_weather_length i_weather_cycle i_town_houses i_rule_length i_rule_drafted a_weather_inches o.2.2.2.2.2.1 o.2.2.2.2.2.2.1 a_town_hold a_town_below o.2.2.2.2.2.2.2.1 o.2.2.2.2.2.2.2.2.1 a_rule_code o.2.2.2.2.2.2.2.2.2.1 o.2.2.2.2.2.2.2.2.2.2)) → GO p l e 4 s m args below meth c Q E A 3 2 [] [(0, .ref q0), (1, .int p1), (2, .int v2)] (WX9_goDays E q0 q0_town q0_weather q0_rule q0_state q0_owedBy q0_state_snow q0_state_path q0_state_debt q0_weather_inches q0_town_hold q0_town_below q0_town_hay q0_rule_code q0_rule_draft q0_rule_stack q0_rule_things i_owed i_slides i_struck i_slid i_state_now i_weather_length i_weather_cycle i_town_houses i_rule_length i_rule_drafted a_weather_inches a_state_snow a_state_path a_town_hold a_town_below a_rule_things a_rule_stack a_rule_code a_state_debt a_owedBy) := by
    intro n
    induction n with
    | zero =>
      intro v2 i_owed i_slides i_struck i_slid i_state_now a_state_snow a_state_path a_rule_things a_rule_stack a_state_debt a_owedBy o hf
      have hf : none = some o := hf
      cases hf
    | succ n ih =>
      intro v2 i_owed i_slides i_struck i_slid i_state_now a_state_snow a_state_path a_rule_things a_rule_stack a_state_debt a_owedBy o hf hE
      intro H locs ls hl hP hD hS
      rw [fX9_goDays_L2] at hf
      refine lv_iload_n hx hb dX9_goDays_2 rfl (lv_at hl 2 rfl) ?_
      refine lv_iload_n hx hb dX9_goDays_3 rfl (lv_at hl 1 rfl) ?_
      refine lv_icmp_ge (tgt := 17) hx hb dX9_goDays_4 (by decide) (fun c1 => ?_) (fun c1 => ?_)
      · rw [if_pos c1] at hf
        have hf := Option.some.inj hf
        subst hf
        exact hE _ _ _ (lv_sub hl [] rfl) hP hD hS
      · rw [if_neg c1] at hf
        refine lv_aload_n hx hb dX9_goDays_7 rfl (lv_at hl 0 rfl) ?_
        obtain ⟨o2, hg3, hf⟩ := bd_some hf
        refine k_VV (As := []) C K_RX9_44 (Nat.le_of_ble_eq_true rfl) (Nat.le_of_ble_eq_true rfl) (kX9_goDay l E q0 q0_town q0_weather q0_rule q0_state q0_owedBy q0_state_snow q0_state_path q0_state_debt q0_weather_inches q0_town_hold q0_town_below q0_town_hay q0_rule_code q0_rule_draft q0_rule_stack q0_rule_things i_owed i_slides i_struck i_slid i_state_now i_weather_length i_weather_cycle a_weather_inches i_town_houses a_state_snow a_state_path a_town_hold a_town_below i_rule_length i_rule_drafted a_rule_things a_rule_stack a_rule_code a_state_debt a_owedBy o2.1 o2.2.1 o2.2.2.1 o2.2.2.2.1 o2.2.2.2.2.1 o2.2.2.2.2.2.1 o2.2.2.2.2.2.2.1 o2.2.2.2.2.2.2.2.1 o2.2.2.2.2.2.2.2.2.1 o2.2.2.2.2.2.2.2.2.2.1 o2.2.2.2.2.2.2.2.2.2.2 hg3) [0, 1, 2, 5, 3, 6, 7, 8, 9, 4, 10, 11, 12, 13, 14] rfl rfl rfl (ci := 9) rfl rfl (q0 := 0) rfl hP hD hS hA hl.1 (Nat.le_of_ble_eq_true rfl) rfl dX9_goDays_8 (fun H locs hP hD hS => ?_)
        have hP : va_P E.1 classes (WX9_goDays E q0 q0_town q0_weather q0_rule q0_state q0_owedBy q0_state_snow q0_state_path q0_state_debt q0_weather_inches q0_town_hold q0_town_below q0_town_hay q0_rule_code q0_rule_draft q0_rule_stack q0_rule_things o2.1 o2.2.1 o2.2.2.1 o2.2.2.2.1 o2.2.2.2.2.1 i_weather_length i_weather_cycle i_town_houses i_rule_length i_rule_drafted a_weather_inches o2.2.2.2.2.2.1 o2.2.2.2.2.2.2.1 a_town_hold a_town_below o2.2.2.2.2.2.2.2.1 o2.2.2.2.2.2.2.2.2.1 a_rule_code o2.2.2.2.2.2.2.2.2.2.1 o2.2.2.2.2.2.2.2.2.2.2) H := hP
        have hD : va_D A (WX9_goDays E q0 q0_town q0_weather q0_rule q0_state q0_owedBy q0_state_snow q0_state_path q0_state_debt q0_weather_inches q0_town_hold q0_town_below q0_town_hay q0_rule_code q0_rule_draft q0_rule_stack q0_rule_things o2.1 o2.2.1 o2.2.2.1 o2.2.2.2.1 o2.2.2.2.2.1 i_weather_length i_weather_cycle i_town_houses i_rule_length i_rule_drafted a_weather_inches o2.2.2.2.2.2.1 o2.2.2.2.2.2.2.1 a_town_hold a_town_below o2.2.2.2.2.2.2.2.1 o2.2.2.2.2.2.2.2.2.1 a_rule_code o2.2.2.2.2.2.2.2.2.2.1 o2.2.2.2.2.2.2.2.2.2.2) := hD
        refine lv_iinc (v := (v2 + 1)) (lv' := [(2, .int ((v2 + 1))), (0, .ref q0), (1, .int p1)]) hx hb dX9_goDays_11 hl (k := 2) rfl rfl (by decide) rfl (fun ls hl => ?_)
        refine lv_goto (tgt := 2) hx hb dX9_goDays_14 (by decide) ?_
        exact ih ((v2 + 1)) o2.1 o2.2.1 o2.2.2.1 o2.2.2.2.1 o2.2.2.2.2.1 o2.2.2.2.2.2.1 o2.2.2.2.2.2.2.1 o2.2.2.2.2.2.2.2.1 o2.2.2.2.2.2.2.2.2.1 o2.2.2.2.2.2.2.2.2.2.1 o2.2.2.2.2.2.2.2.2.2.2 _ hf hE _ _ _ (lv_sub hl [1, 2, 0] rfl) hP hD hS
  intro H locs ls hl hP hD hS
  have hl : lv_has ls 3 [(0, .ref q0), (1, .int p1)] := hl
  unfold fX9_goDays at hf
  refine lv_iconst (v := 0) hx hb dX9_goDays_0 (by decide) ?_
  refine lv_istore_n (lv' := [(2, .int 0), (0, .ref q0), (1, .int p1)]) hx hb dX9_goDays_1 rfl hl (by decide) rfl (fun ls hl => ?_)
  obtain ⟨o4, hg5, hf⟩ := bd_some hf
  refine L2 FU 0 i_owed i_slides i_struck i_slid i_state_now a_state_snow a_state_path a_rule_things a_rule_stack a_state_debt a_owedBy o4 hg5 ?_ _ _ _ (lv_sub hl [1, 2, 0] rfl) hP hD hS
  intro H locs ls hl hP hD hS
  have hj0 := Option.some.inj hf
  obtain ⟨ha0, hj1⟩ := Prod.mk.inj hj0
  obtain ⟨ha1, hj2⟩ := Prod.mk.inj hj1
  obtain ⟨ha2, hj3⟩ := Prod.mk.inj hj2
  obtain ⟨ha3, hj4⟩ := Prod.mk.inj hj3
  obtain ⟨ha4, hj5⟩ := Prod.mk.inj hj4
  obtain ⟨ha5, hj6⟩ := Prod.mk.inj hj5
  obtain ⟨ha6, hj7⟩ := Prod.mk.inj hj6
  obtain ⟨ha7, hj8⟩ := Prod.mk.inj hj7
  obtain ⟨ha8, hj9⟩ := Prod.mk.inj hj8
  obtain ⟨ha9, hj10⟩ := Prod.mk.inj hj9
  subst ha0
  subst ha1
  subst ha2
  subst ha3
  subst ha4
  subst ha5
  subst ha6
  subst ha7
  subst ha8
  subst ha9
  subst hj10
  exact hret _ _ _ _ dX9_goDays_17 hP hD hS
