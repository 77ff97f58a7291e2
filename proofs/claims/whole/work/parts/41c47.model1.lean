theorem inT12 : ∀ w ∈ u_ws RX12 TX12 52, w ∈ Tg := by decide +kernel
theorem q1337 : Cond.fieldLink RX12 87 "SnowForSummerModel" "thrown" "I" ∈ Tg := Tg_mem 1337 (by decide +kernel) (by decide +kernel)
theorem gf_RX12_87 {p : Program} {l : Launch} {e : Env} {R : Room} {s : State} {m : MethodId} {args : Array Value} {below : List Frame} {meth : Method} {c : Code} {H : Heap} {locs : List Loc} {cells slots : Nat} {Q : State → Prop} {E : ENV} {cc : ByteArray} {n : Nat} {r : Option FieldType} {pc : Nat} {ls : Array Slot} {rest : List Value} {a : Nat} {ws : va_W} {nm ds : String} {fs : List Value} {A : Nat → Prop} {v : Value} (C : Cx E A ⟨RX12, nm, ds⟩ cc n r p s m args meth c) (hP : va_P E.1 classes ws H) (q0 : Nat) (he : ws[q0]? = some (a, .inr (12, fs))) (hv : fs[11]? = some v) (hdg : decode cc pc = .ok (.getfield 87, 3))
    (kk : W p l e R s m args below meth c H locs cells slots Q (F0 m (pc + 3) ls (v :: rest))) : W p l e R s m args below meth c H locs cells slots Q (F0 m pc ls (.ref a :: rest)) :=
  va_get (C := RX12) (T := TX12) (N := 52) (Ts := wl ⟨RX12, nm, ds⟩ cc n r) C.1 C.2.1 C.2.2.2.2.1 (fun w h => List.mem_cons_of_mem _ (inT12 w h)) C.2.2.2.1 C.2.2.2.2.2.1 hP q0 he rfl 11 (by decide) (C.2.2.2.2.1 _ (List.mem_cons_of_mem _ q1337)) (fun _ h9 => h9) hv hdg kk
theorem dX12_thrown_0 : decode cX12_thrown 0 = .ok (.aload_n 0, 1) := by decide +kernel
theorem dX12_thrown_1 : decode cX12_thrown 1 = .ok (.getfield 87, 3) := by decide +kernel
theorem dX12_thrown_4 : decode cX12_thrown 4 = .ok (.ireturn, 1) := by decide +kernel
def WX12_thrown (E : ENV) (q0 : Nat) (q0_now : Nat) (q0_hold : Nat) (q0_below : Nat) (q0_hay : Nat) (q0_weather : Nat) (q0_text : Nat) (q0_row : Nat) (q0_comes : Nat) (q0_rule : Nat) (q0_owedBy : Nat) (q0_undos : Nat) (q0_aside : Nat) (q0_acts : Nat) (q0_ring : Nat) (q0_bestRing : Nat) (q0_nets : Nat) (q0_worked : Nat) (q0_then : Nat) (q0_plan : Nat) (q0_bestPlan : Nat) (q0_tried : Nat) (q0_tracks : Nat) (q0_kept : Nat) (q0_isKept : Nat) (q0_keptCame : Nat) (i_houses : Int32) (i_weatherMany : Int32) (i_typed : Int32) (i_rowMany : Int32) (i_thrown : Int32) (x_read : Value) (i_length : Int32) (i_top : Int32) (i_at : Int32) (i_wrong : Int32) (i_ruleSize : Int32) (i_isAsked : Int32) (i_askedInches : Int32) (i_askedPath : Int32) (i_askedDay : Int32) (i_askedRoof : Int32) (i_askedBelow : Int32) (i_askedLoose : Int32) (i_slidesMany : Int32) (i_owedNow : Int32) (i_slidInto : Int32) (i_undoMany : Int32) (i_bestLength : Int32) (i_setOff : Int32) (i_letLie : Int32) (i_trackMany : Int32) (i_came : Int32) : va_W := [(q0, .inr (12, [.ref q0_now, .int i_houses, .ref q0_hold, .ref q0_below, .ref q0_hay, .ref q0_weather, .int i_weatherMany, .ref q0_text, .int i_typed, .ref q0_row, .int i_rowMany, .int i_thrown, x_read, .int i_length, .int i_top, .int i_at, .int i_wrong, .ref q0_comes, .ref q0_rule, .int i_ruleSize, .int i_isAsked, .int i_askedInches, .int i_askedPath, .int i_askedDay, .int i_askedRoof, .int i_askedBelow, .int i_askedLoose, .int i_slidesMany, .int i_owedNow, .ref q0_owedBy, .int i_slidInto, .ref q0_undos, .int i_undoMany, .ref q0_aside, .ref q0_acts, .ref q0_ring, .ref q0_bestRing, .int i_bestLength, .ref q0_nets, .ref q0_worked, .ref q0_then, .ref q0_plan, .ref q0_bestPlan, .ref q0_tried, .int i_setOff, .int i_letLie, .ref q0_tracks, .int i_trackMany, .int i_came, .ref q0_kept, .ref q0_isKept, .ref q0_keptCame]))]
set_option maxHeartbeats 4000000 in
set_option maxRecDepth 20000 in
theorem kX12_thrown (l : Launch) (E : ENV) (q0 : Nat) (q0_now : Nat) (q0_hold : Nat) (q0_below : Nat) (q0_hay : Nat) (q0_weather : Nat) (q0_text : Nat) (q0_row : Nat) (q0_comes : Nat) (q0_rule : Nat) (q0_owedBy : Nat) (q0_undos : Nat) (q0_aside : Nat) (q0_acts : Nat) (q0_ring : Nat) (q0_bestRing : Nat) (q0_nets : Nat) (q0_worked : Nat) (q0_then : Nat) (q0_plan : Nat) (q0_bestPlan : Nat) (q0_tried : Nat) (q0_tracks : Nat) (q0_kept : Nat) (q0_isKept : Nat) (q0_keptCame : Nat) (i_houses : Int32) (i_weatherMany : Int32) (i_typed : Int32) (i_rowMany : Int32) (i_thrown : Int32) (x_read : Value) (i_length : Int32) (i_top : Int32) (i_at : Int32) (i_wrong : Int32) (i_ruleSize : Int32) (i_isAsked : Int32) (i_askedInches : Int32) (i_askedPath : Int32) (i_askedDay : Int32) (i_askedRoof : Int32) (i_askedBelow : Int32) (i_askedLoose : Int32) (i_slidesMany : Int32) (i_owedNow : Int32) (i_slidInto : Int32) (i_undoMany : Int32) (i_bestLength : Int32) (i_setOff : Int32) (i_letLie : Int32) (i_trackMany : Int32) (i_came : Int32) (r9 : Int32) (hf : fX12_thrown i_thrown = some r9) : CI l E yX12_thrown cX12_thrown 1 (some .int) 0 [.ref q0] (WX12_thrown E q0 q0_now q0_hold q0_below q0_hay q0_weather q0_text q0_row q0_comes q0_rule q0_owedBy q0_undos q0_aside q0_acts q0_ring q0_bestRing q0_nets q0_worked q0_then q0_plan q0_bestPlan q0_tried q0_tracks q0_kept q0_isKept q0_keptCame i_houses i_weatherMany i_typed i_rowMany i_thrown x_read i_length i_top i_at i_wrong i_ruleSize i_isAsked i_askedInches i_askedPath i_askedDay i_askedRoof i_askedBelow i_askedLoose i_slidesMany i_owedNow i_slidInto i_undoMany i_bestLength i_setOff i_letLie i_trackMany i_came) (WX12_thrown E q0 q0_now q0_hold q0_below q0_hay q0_weather q0_text q0_row q0_comes q0_rule q0_owedBy q0_undos q0_aside q0_acts q0_ring q0_bestRing q0_nets q0_worked q0_then q0_plan q0_bestPlan q0_tried q0_tracks q0_kept q0_isKept q0_keptCame i_houses i_weatherMany i_typed i_rowMany i_thrown x_read i_length i_top i_at i_wrong i_ruleSize i_isAsked i_askedInches i_askedPath i_askedDay i_askedRoof i_askedBelow i_askedLoose i_slidesMany i_owedNow i_slidInto i_undoMany i_bestLength i_setOff i_letLie i_trackMany i_came) r9 := by
  refine begI (by decide +kernel) (Nat.le_of_ble_eq_true rfl) ?_
  intro p e s m args below meth c A Q C hA hret
  have hx := C.1
  have hb := C.2.1
  intro H locs ls hl hP hD hS
  have hl : lv_has ls 1 [(0, .ref q0)] := hl
  unfold fX12_thrown at hf
  refine lv_aload_n hx hb dX12_thrown_0 rfl (lv_at hl 0 rfl) ?_
  refine gf_RX12_87 C hP 0 rfl rfl dX12_thrown_1 ?_
  have hj0 := Option.some.inj hf
  subst hj0
  exact hret _ _ _ _ dX12_thrown_4 rfl hP hD hS
theorem dX12_in_0 : decode cX12_in 0 = .ok (.iload_n 0, 1) := by decide +kernel
theorem dX12_in_1 : decode cX12_in 1 = .ok (.iload_n 1, 1) := by decide +kernel
theorem dX12_in_2 : decode cX12_in 2 = .ok (.if_icmp .lt 12, 3) := by decide +kernel
theorem dX12_in_5 : decode cX12_in 5 = .ok (.iload_n 0, 1) := by decide +kernel
theorem dX12_in_6 : decode cX12_in 6 = .ok (.iload_n 2, 1) := by decide +kernel
theorem dX12_in_7 : decode cX12_in 7 = .ok (.if_icmp .gt 7, 3) := by decide +kernel
theorem dX12_in_10 : decode cX12_in 10 = .ok (.iconst 1, 1) := by decide +kernel
theorem dX12_in_11 : decode cX12_in 11 = .ok (.goto 4, 3) := by decide +kernel
theorem dX12_in_14 : decode cX12_in 14 = .ok (.iconst 0, 1) := by decide +kernel
theorem dX12_in_15 : decode cX12_in 15 = .ok (.ireturn, 1) := by decide +kernel
def WX12_in (E : ENV)  : va_W := []
set_option maxHeartbeats 4000000 in
set_option maxRecDepth 20000 in
theorem kX12_in (l : Launch) (E : ENV) (p0 : Int32) (p1 : Int32) (p2 : Int32) (r9 : Int32) (hf : fX12_in p0 p1 p2 = some r9) : CI l E yX12_in cX12_in 3 (some .boolean) 0 [.int p0, .int p1, .int p2] (WX12_in E) (WX12_in E) r9 := by
  refine begI (by decide +kernel) (Nat.le_of_ble_eq_true rfl) ?_
  intro p e s m args below meth c A Q C hA hret
  have hx := C.1
  have hb := C.2.1
  intro H locs ls hl hP hD hS
  have hl : lv_has ls 3 [(0, .int p0), (1, .int p1), (2, .int p2)] := hl
  unfold fX12_in at hf
  refine lv_iload_n hx hb dX12_in_0 rfl (lv_at hl 0 rfl) ?_
  refine lv_iload_n hx hb dX12_in_1 rfl (lv_at hl 1 rfl) ?_
  refine lv_icmp_lt (tgt := 14) hx hb dX12_in_2 (by decide) (fun c1 => ?_) (fun c1 => ?_)
  · rw [if_pos c1] at hf
    refine lv_iconst (v := 0) hx hb dX12_in_14 (by decide) ?_
    have hj0 := Option.some.inj hf
    subst hj0
    exact hret _ _ _ _ dX12_in_15 rfl hP hD hS
  · rw [if_neg c1] at hf
    refine lv_iload_n hx hb dX12_in_5 rfl (lv_at hl 0 rfl) ?_
    refine lv_iload_n hx hb dX12_in_6 rfl (lv_at hl 2 rfl) ?_
    refine lv_icmp_gt (tgt := 14) hx hb dX12_in_7 (by decide) (fun c2 => ?_) (fun c2 => ?_)
    · rw [if_pos c2] at hf
      refine lv_iconst (v := 0) hx hb dX12_in_14 (by decide) ?_
      have hj0 := Option.some.inj hf
      subst hj0
      exact hret _ _ _ _ dX12_in_15 rfl hP hD hS
    · rw [if_neg c2] at hf
      refine lv_iconst (v := 1) hx hb dX12_in_10 (by decide) ?_
      refine lv_goto (tgt := 15) hx hb dX12_in_11 (by decide) ?_
      have hj0 := Option.some.inj hf
      subst hj0
      exact hret _ _ _ _ dX12_in_15 rfl hP hD hS
theorem dX12_has_0 : decode cX12_has 0 = .ok (.iload_n 0, 1) := by decide +kernel
theorem dX12_has_1 : decode cX12_has 1 = .ok (.iload_n 1, 1) := by decide +kernel
theorem dX12_has_2 : decode cX12_has 2 = .ok (.ishr, 1) := by decide +kernel
theorem dX12_has_3 : decode cX12_has 3 = .ok (.iconst 1, 1) := by decide +kernel
theorem dX12_has_4 : decode cX12_has 4 = .ok (.iand, 1) := by decide +kernel
theorem dX12_has_5 : decode cX12_has 5 = .ok (.iconst 1, 1) := by decide +kernel
theorem dX12_has_6 : decode cX12_has 6 = .ok (.if_icmp .ne 7, 3) := by decide +kernel
theorem dX12_has_9 : decode cX12_has 9 = .ok (.iconst 1, 1) := by decide +kernel
theorem dX12_has_10 : decode cX12_has 10 = .ok (.goto 4, 3) := by decide +kernel
theorem dX12_has_13 : decode cX12_has 13 = .ok (.iconst 0, 1) := by decide +kernel
theorem dX12_has_14 : decode cX12_has 14 = .ok (.ireturn, 1) := by decide +kernel
def WX12_has (E : ENV)  : va_W := []
set_option maxHeartbeats 4000000 in
set_option maxRecDepth 20000 in
theorem kX12_has (l : Launch) (E : ENV) (p0 : Int32) (p1 : Int32) (r9 : Int32) (hf : fX12_has p0 p1 = some r9) : CI l E yX12_has cX12_has 2 (some .boolean) 0 [.int p0, .int p1] (WX12_has E) (WX12_has E) r9 := by
  refine begI (by decide +kernel) (Nat.le_of_ble_eq_true rfl) ?_
  intro p e s m args below meth c A Q C hA hret
  have hx := C.1
  have hb := C.2.1
  intro H locs ls hl hP hD hS
  have hl : lv_has ls 2 [(0, .int p0), (1, .int p1)] := hl
  unfold fX12_has at hf
  refine lv_iload_n hx hb dX12_has_0 rfl (lv_at hl 0 rfl) ?_
  refine lv_iload_n hx hb dX12_has_1 rfl (lv_at hl 1 rfl) ?_
  refine lv_ishr hx hb dX12_has_2 ?_
  refine lv_iconst (v := 1) hx hb dX12_has_3 (by decide) ?_
  refine lv_iand hx hb dX12_has_4 ?_
  refine lv_iconst (v := 1) hx hb dX12_has_5 (by decide) ?_
  refine lv_icmp_ne (tgt := 13) hx hb dX12_has_6 (by decide) (fun c1 => ?_) (fun c1 => ?_)
  · rw [if_neg c1] at hf
    refine lv_iconst (v := 0) hx hb dX12_has_13 (by decide) ?_
    have hj0 := Option.some.inj hf
    subst hj0
    exact hret _ _ _ _ dX12_has_14 rfl hP hD hS
  · rw [if_pos c1] at hf
    refine lv_iconst (v := 1) hx hb dX12_has_9 (by decide) ?_
    refine lv_goto (tgt := 14) hx hb dX12_has_10 (by decide) ?_
    have hj0 := Option.some.inj hf
    subst hj0
    exact hret _ _ _ _ dX12_has_14 rfl hP hD hS
theorem pf_RX12_87 {p : Program} {l : Launch} {e : Env} {R : Room} {s : State} {m : MethodId} {args : Array Value} {below : List Frame} {meth : Method} {c : Code} {H : Heap} {locs : List Loc} {cells slots : Nat} {Q : State → Prop} {E : ENV} {cc : ByteArray} {n : Nat} {r : Option FieldType} {pc : Nat} {ls : Array Slot} {rest : List Value} {a : Nat} {ws : va_W} {nm ds : String} {fs : List Value} {A : Nat → Prop} {H0 : Heap} {x : Int32} (C : Cx E A ⟨RX12, nm, ds⟩ cc n r p s m args meth c) (hP : va_P E.1 classes ws H) (hD : va_D A ws) (hS : va_S A H0 H locs) (q0 : Nat) (he : ws[q0]? = some (a, .inr (12, fs))) (hl : 11 < fs.length) (hdg : decode cc pc = .ok (.putfield 87, 3))
    (kk : ∀ (H1 : Heap) (locs1 : List Loc), va_P E.1 classes (ws.set q0 (a, .inr (12, fs.set 11 (.int x)))) H1 → va_D A (ws.set q0 (a, .inr (12, fs.set 11 (.int x)))) → va_S A H0 H1 locs1 → W p l e R s m args below meth c H1 locs1 cells slots Q (F0 m (pc + 3) ls rest)) : W p l e R s m args below meth c H locs cells slots Q (F0 m pc ls (.int x :: .ref a :: rest)) :=
  va_put (C := RX12) (T := TX12) (N := 52) (ty := .int) (Ts := wl ⟨RX12, nm, ds⟩ cc n r) C.1 C.2.1 C.2.2.2.2.1 (fun w h => List.mem_cons_of_mem _ (inT12 w h)) tyX12 tyX12_ok nmX12 C.2.2.2.1 C.2.2.2.2.2.1 hP hD hS q0 he rfl 11 (by decide) (C.2.2.2.2.1 _ (List.mem_cons_of_mem _ q1337)) (fun _ h9 => h9) rfl (by decide +kernel) rfl rfl hl hdg kk
theorem dX12_lost_0 : decode cX12_lost 0 = .ok (.aload_n 0, 1) := by decide +kernel
theorem dX12_lost_1 : decode cX12_lost 1 = .ok (.iconst 1, 1) := by decide +kernel
theorem dX12_lost_2 : decode cX12_lost 2 = .ok (.putfield 87, 3) := by decide +kernel
theorem dX12_lost_5 : decode cX12_lost 5 = .ok (.iconst 0, 1) := by decide +kernel
theorem dX12_lost_6 : decode cX12_lost 6 = .ok (.ireturn, 1) := by decide +kernel
def WX12_lost (E : ENV) (q0 : Nat) (q0_now : Nat) (q0_hold : Nat) (q0_below : Nat) (q0_hay : Nat) (q0_weather : Nat) (q0_text : Nat) (q0_row : Nat) (q0_comes : Nat) (q0_rule : Nat) (q0_owedBy : Nat) (q0_undos : Nat) (q0_aside : Nat) (q0_acts : Nat) (q0_ring : Nat) (q0_bestRing : Nat) (q0_nets : Nat) (q0_worked : Nat) (q0_then : Nat) (q0_plan : Nat) (q0_bestPlan : Nat) (q0_tried : Nat) (q0_tracks : Nat) (q0_kept : Nat) (q0_isKept : Nat) (q0_keptCame : Nat) (i_houses : Int32) (i_weatherMany : Int32) (i_typed : Int32) (i_rowMany : Int32) (i_thrown : Int32) (x_read : Value) (i_length : Int32) (i_top : Int32) (i_at : Int32) (i_wrong : Int32) (i_ruleSize : Int32) (i_isAsked : Int32) (i_askedInches : Int32) (i_askedPath : Int32) (i_askedDay : Int32) (i_askedRoof : Int32) (i_askedBelow : Int32) (i_askedLoose : Int32) (i_slidesMany : Int32) (i_owedNow : Int32) (i_slidInto : Int32) (i_undoMany : Int32) (i_bestLength : Int32) (i_setOff : Int32) (i_letLie : Int32) (i_trackMany : Int32) (i_came : Int32) : va_W := [(q0, .inr (12, [.ref q0_now, .int i_houses, .ref q0_hold, .ref q0_below, .ref q0_hay, .ref q0_weather, .int i_weatherMany, .ref q0_text, .int i_typed, .ref q0_row, .int i_rowMany, .int i_thrown, x_read, .int i_length, .int i_top, .int i_at, .int i_wrong, .ref q0_comes, .ref q0_rule, .int i_ruleSize, .int i_isAsked, .int i_askedInches, .int i_askedPath, .int i_askedDay, .int i_askedRoof, .int i_askedBelow, .int i_askedLoose, .int i_slidesMany, .int i_owedNow, .ref q0_owedBy, .int i_slidInto, .ref q0_undos, .int i_undoMany, .ref q0_aside, .ref q0_acts, .ref q0_ring, .ref q0_bestRing, .int i_bestLength, .ref q0_nets, .ref q0_worked, .ref q0_then, .ref q0_plan, .ref q0_bestPlan, .ref q0_tried, .int i_setOff, .int i_letLie, .ref q0_tracks, .int i_trackMany, .int i_came, .ref q0_kept, .ref q0_isKept, .ref q0_keptCame]))]
set_option maxHeartbeats 4000000 in
set_option maxRecDepth 20000 in
theorem kX12_lost (l : Launch) (E : ENV) (q0 : Nat) (q0_now : Nat) (q0_hold : Nat) (q0_below : Nat) (q0_hay : Nat) (q0_weather : Nat) (q0_text : Nat) (q0_row : Nat) (q0_comes : Nat) (q0_rule : Nat) (q0_owedBy : Nat) (q0_undos : Nat) (q0_aside : Nat) (q0_acts : Nat) (q0_ring : Nat) (q0_bestRing : Nat) (q0_nets : Nat) (q0_worked : Nat) (q0_then : Nat) (q0_plan : Nat) (q0_bestPlan : Nat) (q0_tried : Nat) (q0_tracks : Nat) (q0_kept : Nat) (q0_isKept : Nat) (q0_keptCame : Nat) (i_houses : Int32) (i_weatherMany : Int32) (i_typed : Int32) (i_rowMany : Int32) (i_thrown : Int32) (x_read : Value) (i_length : Int32) (i_top : Int32) (i_at : Int32) (i_wrong : Int32) (i_ruleSize : Int32) (i_isAsked : Int32) (i_askedInches : Int32) (i_askedPath : Int32) (i_askedDay : Int32) (i_askedRoof : Int32) (i_askedBelow : Int32) (i_askedLoose : Int32) (i_slidesMany : Int32) (i_owedNow : Int32) (i_slidInto : Int32) (i_undoMany : Int32) (i_bestLength : Int32) (i_setOff : Int32) (i_letLie : Int32) (i_trackMany : Int32) (i_came : Int32) (r9 : Int32) (i_thrown9 : Int32) (hf : fX12_lost i_thrown = some (r9, i_thrown9)) : CI l E yX12_lost cX12_lost 1 (some .int) 0 [.ref q0] (WX12_lost E q0 q0_now q0_hold q0_below q0_hay q0_weather q0_text q0_row q0_comes q0_rule q0_owedBy q0_undos q0_aside q0_acts q0_ring q0_bestRing q0_nets q0_worked q0_then q0_plan q0_bestPlan q0_tried q0_tracks q0_kept q0_isKept q0_keptCame i_houses i_weatherMany i_typed i_rowMany i_thrown x_read i_length i_top i_at i_wrong i_ruleSize i_isAsked i_askedInches i_askedPath i_askedDay i_askedRoof i_askedBelow i_askedLoose i_slidesMany i_owedNow i_slidInto i_undoMany i_bestLength i_setOff i_letLie i_trackMany i_came) (WX12_lost E q0 q0_now q0_hold q0_below q0_hay q0_weather q0_text q0_row q0_comes q0_rule q0_owedBy q0_undos q0_aside q0_acts q0_ring q0_bestRing q0_nets q0_worked q0_then q0_plan q0_bestPlan q0_tried q0_tracks q0_kept q0_isKept q0_keptCame i_houses i_weatherMany i_typed i_rowMany i_thrown9 x_read i_length i_top i_at i_wrong i_ruleSize i_isAsked i_askedInches i_askedPath i_askedDay i_askedRoof i_askedBelow i_askedLoose i_slidesMany i_owedNow i_slidInto i_undoMany i_bestLength i_setOff i_letLie i_trackMany i_came) r9 := by
  refine begI (by decide +kernel) (Nat.le_of_ble_eq_true rfl) ?_
  intro p e s m args below meth c A Q C hA hret
  have hx := C.1
  have hb := C.2.1
  intro H locs ls hl hP hD hS
  have hl : lv_has ls 1 [(0, .ref q0)] := hl
  unfold fX12_lost at hf
  refine lv_aload_n hx hb dX12_lost_0 rfl (lv_at hl 0 rfl) ?_
  refine lv_iconst (v := 1) hx hb dX12_lost_1 (by decide) ?_
  refine pf_RX12_87 C hP hD hS 0 rfl (Nat.le_of_ble_eq_true rfl) dX12_lost_2 (fun H locs hP hD hS => ?_)
  have hP : va_P E.1 classes (WX12_lost E q0 q0_now q0_hold q0_below q0_hay q0_weather q0_text q0_row q0_comes q0_rule q0_owedBy q0_undos q0_aside q0_acts q0_ring q0_bestRing q0_nets q0_worked q0_then q0_plan q0_bestPlan q0_tried q0_tracks q0_kept q0_isKept q0_keptCame i_houses i_weatherMany i_typed i_rowMany 1 x_read i_length i_top i_at i_wrong i_ruleSize i_isAsked i_askedInches i_askedPath i_askedDay i_askedRoof i_askedBelow i_askedLoose i_slidesMany i_owedNow i_slidInto i_undoMany i_bestLength i_setOff i_letLie i_trackMany i_came) H := hP
  have hD : va_D A (WX12_lost E q0 q0_now q0_hold q0_below q0_hay q0_weather q0_text q0_row q0_comes q0_rule q0_owedBy q0_undos q0_aside q0_acts q0_ring q0_bestRing q0_nets q0_worked q0_then q0_plan q0_bestPlan q0_tried q0_tracks q0_kept q0_isKept q0_keptCame i_houses i_weatherMany i_typed i_rowMany 1 x_read i_length i_top i_at i_wrong i_ruleSize i_isAsked i_askedInches i_askedPath i_askedDay i_askedRoof i_askedBelow i_askedLoose i_slidesMany i_owedNow i_slidInto i_undoMany i_bestLength i_setOff i_letLie i_trackMany i_came) := hD
  refine lv_iconst (v := 0) hx hb dX12_lost_5 (by decide) ?_
  have hj0 := Option.some.inj hf
  obtain ⟨ha0, hj1⟩ := Prod.mk.inj hj0
  subst ha0
  subst hj1
  exact hret _ _ _ _ dX12_lost_6 rfl hP hD hS
theorem q1335 : Cond.fieldLink RX12 29 "SnowForSummerModel" "row" "[I" ∈ Tg := Tg_mem 1335 (by decide +kernel) (by decide +kernel)
theorem gf_RX12_29 {p : Program} {l : Launch} {e : Env} {R : Room} {s : State} {m : MethodId} {args : Array Value} {below : List Frame} {meth : Method} {c : Code} {H : Heap} {locs : List Loc} {cells slots : Nat} {Q : State → Prop} {E : ENV} {cc : ByteArray} {n : Nat} {r : Option FieldType} {pc : Nat} {ls : Array Slot} {rest : List Value} {a : Nat} {ws : va_W} {nm ds : String} {fs : List Value} {A : Nat → Prop} {v : Value} (C : Cx E A ⟨RX12, nm, ds⟩ cc n r p s m args meth c) (hP : va_P E.1 classes ws H) (q0 : Nat) (he : ws[q0]? = some (a, .inr (12, fs))) (hv : fs[9]? = some v) (hdg : decode cc pc = .ok (.getfield 29, 3))
    (kk : W p l e R s m args below meth c H locs cells slots Q (F0 m (pc + 3) ls (v :: rest))) : W p l e R s m args below meth c H locs cells slots Q (F0 m pc ls (.ref a :: rest)) :=
  va_get (C := RX12) (T := TX12) (N := 52) (Ts := wl ⟨RX12, nm, ds⟩ cc n r) C.1 C.2.1 C.2.2.2.2.1 (fun w h => List.mem_cons_of_mem _ (inT12 w h)) C.2.2.2.1 C.2.2.2.2.2.1 hP q0 he rfl 9 (by decide) (C.2.2.2.2.1 _ (List.mem_cons_of_mem _ q1335)) (fun _ h9 => h9) hv hdg kk
theorem q1336 : Cond.fieldLink RX12 91 "SnowForSummerModel" "rowMany" "I" ∈ Tg := Tg_mem 1336 (by decide +kernel) (by decide +kernel)
theorem gf_RX12_91 {p : Program} {l : Launch} {e : Env} {R : Room} {s : State} {m : MethodId} {args : Array Value} {below : List Frame} {meth : Method} {c : Code} {H : Heap} {locs : List Loc} {cells slots : Nat} {Q : State → Prop} {E : ENV} {cc : ByteArray} {n : Nat} {r : Option FieldType} {pc : Nat} {ls : Array Slot} {rest : List Value} {a : Nat} {ws : va_W} {nm ds : String} {fs : List Value} {A : Nat → Prop} {v : Value} (C : Cx E A ⟨RX12, nm, ds⟩ cc n r p s m args meth c) (hP : va_P E.1 classes ws H) (q0 : Nat) (he : ws[q0]? = some (a, .inr (12, fs))) (hv : fs[10]? = some v) (hdg : decode cc pc = .ok (.getfield 91, 3))
    (kk : W p l e R s m args below meth c H locs cells slots Q (F0 m (pc + 3) ls (v :: rest))) : W p l e R s m args below meth c H locs cells slots Q (F0 m pc ls (.ref a :: rest)) :=
  va_get (C := RX12) (T := TX12) (N := 52) (Ts := wl ⟨RX12, nm, ds⟩ cc n r) C.1 C.2.1 C.2.2.2.2.1 (fun w h => List.mem_cons_of_mem _ (inT12 w h)) C.2.2.2.1 C.2.2.2.2.2.1 hP q0 he rfl 10 (by decide) (C.2.2.2.2.1 _ (List.mem_cons_of_mem _ q1336)) (fun _ h9 => h9) hv hdg kk
theorem pf_RX12_91 {p : Program} {l : Launch} {e : Env} {R : Room} {s : State} {m : MethodId} {args : Array Value} {below : List Frame} {meth : Method} {c : Code} {H : Heap} {locs : List Loc} {cells slots : Nat} {Q : State → Prop} {E : ENV} {cc : ByteArray} {n : Nat} {r : Option FieldType} {pc : Nat} {ls : Array Slot} {rest : List Value} {a : Nat} {ws : va_W} {nm ds : String} {fs : List Value} {A : Nat → Prop} {H0 : Heap} {x : Int32} (C : Cx E A ⟨RX12, nm, ds⟩ cc n r p s m args meth c) (hP : va_P E.1 classes ws H) (hD : va_D A ws) (hS : va_S A H0 H locs) (q0 : Nat) (he : ws[q0]? = some (a, .inr (12, fs))) (hl : 10 < fs.length) (hdg : decode cc pc = .ok (.putfield 91, 3))
    (kk : ∀ (H1 : Heap) (locs1 : List Loc), va_P E.1 classes (ws.set q0 (a, .inr (12, fs.set 10 (.int x)))) H1 → va_D A (ws.set q0 (a, .inr (12, fs.set 10 (.int x)))) → va_S A H0 H1 locs1 → W p l e R s m args below meth c H1 locs1 cells slots Q (F0 m (pc + 3) ls rest)) : W p l e R s m args below meth c H locs cells slots Q (F0 m pc ls (.int x :: .ref a :: rest)) :=
  va_put (C := RX12) (T := TX12) (N := 52) (ty := .int) (Ts := wl ⟨RX12, nm, ds⟩ cc n r) C.1 C.2.1 C.2.2.2.2.1 (fun w h => List.mem_cons_of_mem _ (inT12 w h)) tyX12 tyX12_ok nmX12 C.2.2.2.1 C.2.2.2.2.2.1 hP hD hS q0 he rfl 10 (by decide) (C.2.2.2.2.1 _ (List.mem_cons_of_mem _ q1336)) (fun _ h9 => h9) rfl (by decide +kernel) rfl rfl hl hdg kk
theorem dX12_tell_0 : decode cX12_tell 0 = .ok (.aload_n 0, 1) := by decide +kernel
theorem dX12_tell_1 : decode cX12_tell 1 = .ok (.getfield 29, 3) := by decide +kernel
theorem dX12_tell_4 : decode cX12_tell 4 = .ok (.aload_n 0, 1) := by decide +kernel
theorem dX12_tell_5 : decode cX12_tell 5 = .ok (.getfield 91, 3) := by decide +kernel
theorem dX12_tell_8 : decode cX12_tell 8 = .ok (.iload_n 1, 1) := by decide +kernel
theorem dX12_tell_9 : decode cX12_tell 9 = .ok (.iastore, 1) := by decide +kernel
theorem dX12_tell_10 : decode cX12_tell 10 = .ok (.aload_n 0, 1) := by decide +kernel
theorem dX12_tell_11 : decode cX12_tell 11 = .ok (.dup, 1) := by decide +kernel
theorem dX12_tell_12 : decode cX12_tell 12 = .ok (.getfield 91, 3) := by decide +kernel
theorem dX12_tell_15 : decode cX12_tell 15 = .ok (.iconst 1, 1) := by decide +kernel
theorem dX12_tell_16 : decode cX12_tell 16 = .ok (.iadd, 1) := by decide +kernel
theorem dX12_tell_17 : decode cX12_tell 17 = .ok (.putfield 91, 3) := by decide +kernel
theorem dX12_tell_20 : decode cX12_tell 20 = .ok (.return_, 1) := by decide +kernel
def WX12_tell (E : ENV) (q0 : Nat) (q0_now : Nat) (q0_hold : Nat) (q0_below : Nat) (q0_hay : Nat) (q0_weather : Nat) (q0_text : Nat) (q0_row : Nat) (q0_comes : Nat) (q0_rule : Nat) (q0_owedBy : Nat) (q0_undos : Nat) (q0_aside : Nat) (q0_acts : Nat) (q0_ring : Nat) (q0_bestRing : Nat) (q0_nets : Nat) (q0_worked : Nat) (q0_then : Nat) (q0_plan : Nat) (q0_bestPlan : Nat) (q0_tried : Nat) (q0_tracks : Nat) (q0_kept : Nat) (q0_isKept : Nat) (q0_keptCame : Nat) (i_houses : Int32) (i_weatherMany : Int32) (i_typed : Int32) (i_rowMany : Int32) (i_thrown : Int32) (x_read : Value) (i_length : Int32) (i_top : Int32) (i_at : Int32) (i_wrong : Int32) (i_ruleSize : Int32) (i_isAsked : Int32) (i_askedInches : Int32) (i_askedPath : Int32) (i_askedDay : Int32) (i_askedRoof : Int32) (i_askedBelow : Int32) (i_askedLoose : Int32) (i_slidesMany : Int32) (i_owedNow : Int32) (i_slidInto : Int32) (i_undoMany : Int32) (i_bestLength : Int32) (i_setOff : Int32) (i_letLie : Int32) (i_trackMany : Int32) (i_came : Int32) (a_row : Nat → Int32) : va_W := [(q0, .inr (12, [.ref q0_now, .int i_houses, .ref q0_hold, .ref q0_below, .ref q0_hay, .ref q0_weather, .int i_weatherMany, .ref q0_text, .int i_typed, .ref q0_row, .int i_rowMany, .int i_thrown, x_read, .int i_length, .int i_top, .int i_at, .int i_wrong, .ref q0_comes, .ref q0_rule, .int i_ruleSize, .int i_isAsked, .int i_askedInches, .int i_askedPath, .int i_askedDay, .int i_askedRoof, .int i_askedBelow, .int i_askedLoose, .int i_slidesMany, .int i_owedNow, .ref q0_owedBy, .int i_slidInto, .ref q0_undos, .int i_undoMany, .ref q0_aside, .ref q0_acts, .ref q0_ring, .ref q0_bestRing, .int i_bestLength, .ref q0_nets, .ref q0_worked, .ref q0_then, .ref q0_plan, .ref q0_bestPlan, .ref q0_tried, .int i_setOff, .int i_letLie, .ref q0_tracks, .int i_trackMany, .int i_came, .ref q0_kept, .ref q0_isKept, .ref q0_keptCame])), (q0_row, .inl (E.2.1, 16, .inl a_row))]
set_option maxHeartbeats 4000000 in
set_option maxRecDepth 20000 in
theorem kX12_tell (l : Launch) (E : ENV) (q0 : Nat) (q0_now : Nat) (q0_hold : Nat) (q0_below : Nat) (q0_hay : Nat) (q0_weather : Nat) (q0_text : Nat) (q0_row : Nat) (q0_comes : Nat) (q0_rule : Nat) (q0_owedBy : Nat) (q0_undos : Nat) (q0_aside : Nat) (q0_acts : Nat) (q0_ring : Nat) (q0_bestRing : Nat) (q0_nets : Nat) (q0_worked : Nat) (q0_then : Nat) (q0_plan : Nat) (q0_bestPlan : Nat) (q0_tried : Nat) (q0_tracks : Nat) (q0_kept : Nat) (q0_isKept : Nat) (q0_keptCame : Nat) (i_houses : Int32) (i_weatherMany : Int32) (i_typed : Int32) (i_rowMany : Int32) (i_thrown : Int32) (x_read : Value) (i_length : Int32) (i_top : Int32) (i_at : Int32) (i_wrong : Int32) (i_ruleSize : Int32) (i_isAsked : Int32) (i_askedInches : Int32) (i_askedPath : Int32) (i_askedDay : Int32) (i_askedRoof : Int32) (i_askedBelow : Int32) (i_askedLoose : Int32) (i_slidesMany : Int32) (i_owedNow : Int32) (i_slidInto : Int32) (i_undoMany : Int32) (i_bestLength : Int32) (i_setOff : Int32) (i_letLie : Int32) (i_trackMany : Int32) (i_came : Int32) (a_row : Nat → Int32) (p1 : Int32) (i_rowMany9 : Int32) (a_row9 : Nat → Int32) (hf : fX12_tell i_rowMany a_row p1 = some (i_rowMany9, a_row9)) : CV l E yX12_tell cX12_tell 2 0 [.ref q0, .int p1] (WX12_tell E q0 q0_now q0_hold q0_below q0_hay q0_weather q0_text q0_row q0_comes q0_rule q0_owedBy q0_undos q0_aside q0_acts q0_ring q0_bestRing q0_nets q0_worked q0_then q0_plan q0_bestPlan q0_tried q0_tracks q0_kept q0_isKept q0_keptCame i_houses i_weatherMany i_typed i_rowMany i_thrown x_read i_length i_top i_at i_wrong i_ruleSize i_isAsked i_askedInches i_askedPath i_askedDay i_askedRoof i_askedBelow i_askedLoose i_slidesMany i_owedNow i_slidInto i_undoMany i_bestLength i_setOff i_letLie i_trackMany i_came a_row) (WX12_tell E q0 q0_now q0_hold q0_below q0_hay q0_weather q0_text q0_row q0_comes q0_rule q0_owedBy q0_undos q0_aside q0_acts q0_ring q0_bestRing q0_nets q0_worked q0_then q0_plan q0_bestPlan q0_tried q0_tracks q0_kept q0_isKept q0_keptCame i_houses i_weatherMany i_typed i_rowMany9 i_thrown x_read i_length i_top i_at i_wrong i_ruleSize i_isAsked i_askedInches i_askedPath i_askedDay i_askedRoof i_askedBelow i_askedLoose i_slidesMany i_owedNow i_slidInto i_undoMany i_bestLength i_setOff i_letLie i_trackMany i_came a_row9) := by
  refine begV (by decide +kernel) (Nat.le_of_ble_eq_true rfl) ?_
  intro p e s m args below meth c A Q C hA hret
  have hx := C.1
  have hb := C.2.1
  intro H locs ls hl hP hD hS
  have hl : lv_has ls 2 [(0, .ref q0), (1, .int p1)] := hl
  unfold fX12_tell at hf
  refine lv_aload_n hx hb dX12_tell_0 rfl (lv_at hl 0 rfl) ?_
  refine gf_RX12_29 C hP 0 rfl rfl dX12_tell_1 ?_
  refine lv_aload_n hx hb dX12_tell_4 rfl (lv_at hl 0 rfl) ?_
  refine gf_RX12_91 C hP 0 rfl rfl dX12_tell_5 ?_
  refine lv_iload_n hx hb dX12_tell_8 rfl (lv_at hl 1 rfl) ?_
  obtain ⟨g1, hf⟩ := gd_some hf
  refine va_iast hx hb C.2.2.2.2.2.1 hP hD hS 1 0 rfl rfl (vin_in g1) dX12_tell_9 (fun H locs hP hD hS => ?_)
  have hP : va_P E.1 classes (WX12_tell E q0 q0_now q0_hold q0_below q0_hay q0_weather q0_text q0_row q0_comes q0_rule q0_owedBy q0_undos q0_aside q0_acts q0_ring q0_bestRing q0_nets q0_worked q0_then q0_plan q0_bestPlan q0_tried q0_tracks q0_kept q0_isKept q0_keptCame i_houses i_weatherMany i_typed i_rowMany i_thrown x_read i_length i_top i_at i_wrong i_ruleSize i_isAsked i_askedInches i_askedPath i_askedDay i_askedRoof i_askedBelow i_askedLoose i_slidesMany i_owedNow i_slidInto i_undoMany i_bestLength i_setOff i_letLie i_trackMany i_came ((upd a_row (i_rowMany : Int32).toNatClampNeg p1))) H := hP
  have hD : va_D A (WX12_tell E q0 q0_now q0_hold q0_below q0_hay q0_weather q0_text q0_row q0_comes q0_rule q0_owedBy q0_undos q0_aside q0_acts q0_ring q0_bestRing q0_nets q0_worked q0_then q0_plan q0_bestPlan q0_tried q0_tracks q0_kept q0_isKept q0_keptCame i_houses i_weatherMany i_typed i_rowMany i_thrown x_read i_length i_top i_at i_wrong i_ruleSize i_isAsked i_askedInches i_askedPath i_askedDay i_askedRoof i_askedBelow i_askedLoose i_slidesMany i_owedNow i_slidInto i_undoMany i_bestLength i_setOff i_letLie i_trackMany i_came ((upd a_row (i_rowMany : Int32).toNatClampNeg p1))) := hD
  refine lv_aload_n hx hb dX12_tell_10 rfl (lv_at hl 0 rfl) ?_
  refine lv_dup hx hb dX12_tell_11 rfl ?_
  refine gf_RX12_91 C hP 0 rfl rfl dX12_tell_12 ?_
  refine lv_iconst (v := 1) hx hb dX12_tell_15 (by decide) ?_
  refine lv_iadd hx hb dX12_tell_16 ?_
  refine pf_RX12_91 C hP hD hS 0 rfl (Nat.le_of_ble_eq_true rfl) dX12_tell_17 (fun H locs hP hD hS => ?_)
  have hP : va_P E.1 classes (WX12_tell E q0 q0_now q0_hold q0_below q0_hay q0_weather q0_text q0_row q0_comes q0_rule q0_owedBy q0_undos q0_aside q0_acts q0_ring q0_bestRing q0_nets q0_worked q0_then q0_plan q0_bestPlan q0_tried q0_tracks q0_kept q0_isKept q0_keptCame i_houses i_weatherMany i_typed ((i_rowMany + 1)) i_thrown x_read i_length i_top i_at i_wrong i_ruleSize i_isAsked i_askedInches i_askedPath i_askedDay i_askedRoof i_askedBelow i_askedLoose i_slidesMany i_owedNow i_slidInto i_undoMany i_bestLength i_setOff i_letLie i_trackMany i_came ((upd a_row (i_rowMany : Int32).toNatClampNeg p1))) H := hP
  have hD : va_D A (WX12_tell E q0 q0_now q0_hold q0_below q0_hay q0_weather q0_text q0_row q0_comes q0_rule q0_owedBy q0_undos q0_aside q0_acts q0_ring q0_bestRing q0_nets q0_worked q0_then q0_plan q0_bestPlan q0_tried q0_tracks q0_kept q0_isKept q0_keptCame i_houses i_weatherMany i_typed ((i_rowMany + 1)) i_thrown x_read i_length i_top i_at i_wrong i_ruleSize i_isAsked i_askedInches i_askedPath i_askedDay i_askedRoof i_askedBelow i_askedLoose i_slidesMany i_owedNow i_slidInto i_undoMany i_bestLength i_setOff i_letLie i_trackMany i_came ((upd a_row (i_rowMany : Int32).toNatClampNeg p1))) := hD
  have hj0 := Option.some.inj hf
  obtain ⟨ha0, hj1⟩ := Prod.mk.inj hj0
  subst ha0
  subst hj1
  exact hret _ _ _ _ dX12_tell_20 hP hD hS
theorem q1327 : Cond.fieldLink RX12 94 "SnowForSummerModel" "houses" "I" ∈ Tg := Tg_mem 1327 (by decide +kernel) (by decide +kernel)
theorem gf_RX12_94 {p : Program} {l : Launch} {e : Env} {R : Room} {s : State} {m : MethodId} {args : Array Value} {below : List Frame} {meth : Method} {c : Code} {H : Heap} {locs : List Loc} {cells slots : Nat} {Q : State → Prop} {E : ENV} {cc : ByteArray} {n : Nat} {r : Option FieldType} {pc : Nat} {ls : Array Slot} {rest : List Value} {a : Nat} {ws : va_W} {nm ds : String} {fs : List Value} {A : Nat → Prop} {v : Value} (C : Cx E A ⟨RX12, nm, ds⟩ cc n r p s m args meth c) (hP : va_P E.1 classes ws H) (q0 : Nat) (he : ws[q0]? = some (a, .inr (12, fs))) (hv : fs[1]? = some v) (hdg : decode cc pc = .ok (.getfield 94, 3))
    (kk : W p l e R s m args below meth c H locs cells slots Q (F0 m (pc + 3) ls (v :: rest))) : W p l e R s m args below meth c H locs cells slots Q (F0 m pc ls (.ref a :: rest)) :=
  va_get (C := RX12) (T := TX12) (N := 52) (Ts := wl ⟨RX12, nm, ds⟩ cc n r) C.1 C.2.1 C.2.2.2.2.1 (fun w h => List.mem_cons_of_mem _ (inT12 w h)) C.2.2.2.1 C.2.2.2.2.2.1 hP q0 he rfl 1 (by decide) (C.2.2.2.2.1 _ (List.mem_cons_of_mem _ q1327)) (fun _ h9 => h9) hv hdg kk
theorem K_RX12_97 : KS RX12 97 yX12_in cX12_in 3 (some .boolean) 3 := ⟨Tg_mem 1498 (by decide +kernel) (by decide +kernel), Tg_mem 102 (by decide +kernel) (by decide +kernel), Tg_mem 1496 (by decide +kernel) (by decide +kernel), Tg_mem 1497 (by decide +kernel) (by decide +kernel), by decide +kernel⟩
theorem dX12_isHouse_0 : decode cX12_isHouse 0 = .ok (.iload_n 1, 1) := by decide +kernel
theorem dX12_isHouse_1 : decode cX12_isHouse 1 = .ok (.iconst 0, 1) := by decide +kernel
theorem dX12_isHouse_2 : decode cX12_isHouse 2 = .ok (.aload_n 0, 1) := by decide +kernel
theorem dX12_isHouse_3 : decode cX12_isHouse 3 = .ok (.getfield 94, 3) := by decide +kernel
theorem dX12_isHouse_6 : decode cX12_isHouse 6 = .ok (.iconst 1, 1) := by decide +kernel
theorem dX12_isHouse_7 : decode cX12_isHouse 7 = .ok (.isub, 1) := by decide +kernel
theorem dX12_isHouse_8 : decode cX12_isHouse 8 = .ok (.invokestatic 97, 3) := by decide +kernel
theorem dX12_isHouse_11 : decode cX12_isHouse 11 = .ok (.ireturn, 1) := by decide +kernel
def WX12_isHouse (E : ENV) (q0 : Nat) (q0_now : Nat) (q0_hold : Nat) (q0_below : Nat) (q0_hay : Nat) (q0_weather : Nat) (q0_text : Nat) (q0_row : Nat) (q0_comes : Nat) (q0_rule : Nat) (q0_owedBy : Nat) (q0_undos : Nat) (q0_aside : Nat) (q0_acts : Nat) (q0_ring : Nat) (q0_bestRing : Nat) (q0_nets : Nat) (q0_worked : Nat) (q0_then : Nat) (q0_plan : Nat) (q0_bestPlan : Nat) (q0_tried : Nat) (q0_tracks : Nat) (q0_kept : Nat) (q0_isKept : Nat) (q0_keptCame : Nat) (i_houses : Int32) (i_weatherMany : Int32) (i_typed : Int32) (i_rowMany : Int32) (i_thrown : Int32) (x_read : Value) (i_length : Int32) (i_top : Int32) (i_at : Int32) (i_wrong : Int32) (i_ruleSize : Int32) (i_isAsked : Int32) (i_askedInches : Int32) (i_askedPath : Int32) (i_askedDay : Int32) (i_askedRoof : Int32) (i_askedBelow : Int32) (i_askedLoose : Int32) (i_slidesMany : Int32) (i_owedNow : Int32) (i_slidInto : Int32) (i_undoMany : Int32) (i_bestLength : Int32) (i_setOff : Int32) (i_letLie : Int32) (i_trackMany : Int32) (i_came : Int32) : va_W := [(q0, .inr (12, [.ref q0_now, .int i_houses, .ref q0_hold, .ref q0_below, .ref q0_hay, .ref q0_weather, .int i_weatherMany, .ref q0_text, .int i_typed, .ref q0_row, .int i_rowMany, .int i_thrown, x_read, .int i_length, .int i_top, .int i_at, .int i_wrong, .ref q0_comes, .ref q0_rule, .int i_ruleSize, .int i_isAsked, .int i_askedInches, .int i_askedPath, .int i_askedDay, .int i_askedRoof, .int i_askedBelow, .int i_askedLoose, .int i_slidesMany, .int i_owedNow, .ref q0_owedBy, .int i_slidInto, .ref q0_undos, .int i_undoMany, .ref q0_aside, .ref q0_acts, .ref q0_ring, .ref q0_bestRing, .int i_bestLength, .ref q0_nets, .ref q0_worked, .ref q0_then, .ref q0_plan, .ref q0_bestPlan, .ref q0_tried, .int i_setOff, .int i_letLie, .ref q0_tracks, .int i_trackMany, .int i_came, .ref q0_kept, .ref q0_isKept, .ref q0_keptCame]))]
set_option maxHeartbeats 4000000 in
set_option maxRecDepth 20000 in
theorem kX12_isHouse (l : Launch) (E : ENV) (q0 : Nat) (q0_now : Nat) (q0_hold : Nat) (q0_below : Nat) (q0_hay : Nat) (q0_weather : Nat) (q0_text : Nat) (q0_row : Nat) (q0_comes : Nat) (q0_rule : Nat) (q0_owedBy : Nat) (q0_undos : Nat) (q0_aside : Nat) (q0_acts : Nat) (q0_ring : Nat) (q0_bestRing : Nat) (q0_nets : Nat) (q0_worked : Nat) (q0_then : Nat) (q0_plan : Nat) (q0_bestPlan : Nat) (q0_tried : Nat) (q0_tracks : Nat) (q0_kept : Nat) (q0_isKept : Nat) (q0_keptCame : Nat) (i_houses : Int32) (i_weatherMany : Int32) (i_typed : Int32) (i_rowMany : Int32) (i_thrown : Int32) (x_read : Value) (i_length : Int32) (i_top : Int32) (i_at : Int32) (i_wrong : Int32) (i_ruleSize : Int32) (i_isAsked : Int32) (i_askedInches : Int32) (i_askedPath : Int32) (i_askedDay : Int32) (i_askedRoof : Int32) (i_askedBelow : Int32) (i_askedLoose : Int32) (i_slidesMany : Int32) (i_owedNow : Int32) (i_slidInto : Int32) (i_undoMany : Int32) (i_bestLength : Int32) (i_setOff : Int32) (i_letLie : Int32) (i_trackMany : Int32) (i_came : Int32) (p1 : Int32) (r9 : Int32) (hf : fX12_isHouse i_houses p1 = some r9) : CI l E yX12_isHouse cX12_isHouse 2 (some .boolean) 1 [.ref q0, .int p1] (WX12_isHouse E q0 q0_now q0_hold q0_below q0_hay q0_weather q0_text q0_row q0_comes q0_rule q0_owedBy q0_undos q0_aside q0_acts q0_ring q0_bestRing q0_nets q0_worked q0_then q0_plan q0_bestPlan q0_tried q0_tracks q0_kept q0_isKept q0_keptCame i_houses i_weatherMany i_typed i_rowMany i_thrown x_read i_length i_top i_at i_wrong i_ruleSize i_isAsked i_askedInches i_askedPath i_askedDay i_askedRoof i_askedBelow i_askedLoose i_slidesMany i_owedNow i_slidInto i_undoMany i_bestLength i_setOff i_letLie i_trackMany i_came) (WX12_isHouse E q0 q0_now q0_hold q0_below q0_hay q0_weather q0_text q0_row q0_comes q0_rule q0_owedBy q0_undos q0_aside q0_acts q0_ring q0_bestRing q0_nets q0_worked q0_then q0_plan q0_bestPlan q0_tried q0_tracks q0_kept q0_isKept q0_keptCame i_houses i_weatherMany i_typed i_rowMany i_thrown x_read i_length i_top i_at i_wrong i_ruleSize i_isAsked i_askedInches i_askedPath i_askedDay i_askedRoof i_askedBelow i_askedLoose i_slidesMany i_owedNow i_slidInto i_undoMany i_bestLength i_setOff i_letLie i_trackMany i_came) r9 := by
  refine begI (by decide +kernel) (Nat.le_of_ble_eq_true rfl) ?_
  intro p e s m args below meth c A Q C hA hret
  have hx := C.1
  have hb := C.2.1
  intro H locs ls hl hP hD hS
  have hl : lv_has ls 2 [(0, .ref q0), (1, .int p1)] := hl
  unfold fX12_isHouse at hf
  refine lv_iload_n hx hb dX12_isHouse_0 rfl (lv_at hl 1 rfl) ?_
  refine lv_iconst (v := 0) hx hb dX12_isHouse_1 (by decide) ?_
  refine lv_aload_n hx hb dX12_isHouse_2 rfl (lv_at hl 0 rfl) ?_
  refine gf_RX12_94 C hP 0 rfl rfl dX12_isHouse_3 ?_
  refine lv_iconst (v := 1) hx hb dX12_isHouse_6 (by decide) ?_
  refine lv_isub hx hb dX12_isHouse_7 ?_
  obtain ⟨o1, hg2, hf⟩ := bd_some hf
  refine k_SI (As := [.int p1, .int 0, .int ((i_houses - 1))]) C K_RX12_97 (Nat.le_of_ble_eq_true rfl) (Nat.le_of_ble_eq_true rfl) (kX12_in l E p1 0 ((i_houses - 1)) o1 hg2) [] rfl rfl rfl  hP hD hS hA hl.1 (Nat.le_of_ble_eq_true rfl) rfl dX12_isHouse_8 (fun H locs hP hD hS => ?_)
  have hP : va_P E.1 classes (WX12_isHouse E q0 q0_now q0_hold q0_below q0_hay q0_weather q0_text q0_row q0_comes q0_rule q0_owedBy q0_undos q0_aside q0_acts q0_ring q0_bestRing q0_nets q0_worked q0_then q0_plan q0_bestPlan q0_tried q0_tracks q0_kept q0_isKept q0_keptCame i_houses i_weatherMany i_typed i_rowMany i_thrown x_read i_length i_top i_at i_wrong i_ruleSize i_isAsked i_askedInches i_askedPath i_askedDay i_askedRoof i_askedBelow i_askedLoose i_slidesMany i_owedNow i_slidInto i_undoMany i_bestLength i_setOff i_letLie i_trackMany i_came) H := hP
  have hD : va_D A (WX12_isHouse E q0 q0_now q0_hold q0_below q0_hay q0_weather q0_text q0_row q0_comes q0_rule q0_owedBy q0_undos q0_aside q0_acts q0_ring q0_bestRing q0_nets q0_worked q0_then q0_plan q0_bestPlan q0_tried q0_tracks q0_kept q0_isKept q0_keptCame i_houses i_weatherMany i_typed i_rowMany i_thrown x_read i_length i_top i_at i_wrong i_ruleSize i_isAsked i_askedInches i_askedPath i_askedDay i_askedRoof i_askedBelow i_askedLoose i_slidesMany i_owedNow i_slidInto i_undoMany i_bestLength i_setOff i_letLie i_trackMany i_came) := hD
  obtain ⟨g3, hf⟩ := gd_some hf
  have hj0 := Option.some.inj hf
  subst hj0
  exact hret _ _ _ _ dX12_isHouse_11 (isb_n g3) hP hD hS
theorem K_RX12_101 : KV RX12 101 yX12_isHouse cX12_isHouse 2 (some .boolean) 1 := ⟨Tg_mem 1584 (by decide +kernel) (by decide +kernel), Tg_mem 102 (by decide +kernel) (by decide +kernel), Tg_mem 1581 (by decide +kernel) (by decide +kernel), Tg_mem 1583 (by decide +kernel) (by decide +kernel), Tg_mem 55 (by decide +kernel) (by decide +kernel), by decide +kernel⟩
theorem dX12_areTwo_0 : decode cX12_areTwo 0 = .ok (.aload_n 0, 1) := by decide +kernel
theorem dX12_areTwo_1 : decode cX12_areTwo 1 = .ok (.iload_n 1, 1) := by decide +kernel
theorem dX12_areTwo_2 : decode cX12_areTwo 2 = .ok (.invokevirtual 101, 3) := by decide +kernel
theorem dX12_areTwo_5 : decode cX12_areTwo 5 = .ok (.ifCond .eq 20, 3) := by decide +kernel
theorem dX12_areTwo_8 : decode cX12_areTwo 8 = .ok (.aload_n 0, 1) := by decide +kernel
theorem dX12_areTwo_9 : decode cX12_areTwo 9 = .ok (.iload_n 2, 1) := by decide +kernel
theorem dX12_areTwo_10 : decode cX12_areTwo 10 = .ok (.invokevirtual 101, 3) := by decide +kernel
theorem dX12_areTwo_13 : decode cX12_areTwo 13 = .ok (.ifCond .eq 12, 3) := by decide +kernel
theorem dX12_areTwo_16 : decode cX12_areTwo 16 = .ok (.iload_n 1, 1) := by decide +kernel
theorem dX12_areTwo_17 : decode cX12_areTwo 17 = .ok (.iload_n 2, 1) := by decide +kernel
theorem dX12_areTwo_18 : decode cX12_areTwo 18 = .ok (.if_icmp .eq 7, 3) := by decide +kernel
theorem dX12_areTwo_21 : decode cX12_areTwo 21 = .ok (.iconst 1, 1) := by decide +kernel
theorem dX12_areTwo_22 : decode cX12_areTwo 22 = .ok (.goto 4, 3) := by decide +kernel
theorem dX12_areTwo_25 : decode cX12_areTwo 25 = .ok (.iconst 0, 1) := by decide +kernel
theorem dX12_areTwo_26 : decode cX12_areTwo 26 = .ok (.ireturn, 1) := by decide +kernel
def WX12_areTwo (E : ENV) (q0 : Nat) (q0_now : Nat) (q0_hold : Nat) (q0_below : Nat) (q0_hay : Nat) (q0_weather : Nat) (q0_text : Nat) (q0_row : Nat) (q0_comes : Nat) (q0_rule : Nat) (q0_owedBy : Nat) (q0_undos : Nat) (q0_aside : Nat) (q0_acts : Nat) (q0_ring : Nat) (q0_bestRing : Nat) (q0_nets : Nat) (q0_worked : Nat) (q0_then : Nat) (q0_plan : Nat) (q0_bestPlan : Nat) (q0_tried : Nat) (q0_tracks : Nat) (q0_kept : Nat) (q0_isKept : Nat) (q0_keptCame : Nat) (i_houses : Int32) (i_weatherMany : Int32) (i_typed : Int32) (i_rowMany : Int32) (i_thrown : Int32) (x_read : Value) (i_length : Int32) (i_top : Int32) (i_at : Int32) (i_wrong : Int32) (i_ruleSize : Int32) (i_isAsked : Int32) (i_askedInches : Int32) (i_askedPath : Int32) (i_askedDay : Int32) (i_askedRoof : Int32) (i_askedBelow : Int32) (i_askedLoose : Int32) (i_slidesMany : Int32) (i_owedNow : Int32) (i_slidInto : Int32) (i_undoMany : Int32) (i_bestLength : Int32) (i_setOff : Int32) (i_letLie : Int32) (i_trackMany : Int32) (i_came : Int32) : va_W := [(q0, .inr (12, [.ref q0_now, .int i_houses, .ref q0_hold, .ref q0_below, .ref q0_hay, .ref q0_weather, .int i_weatherMany, .ref q0_text, .int i_typed, .ref q0_row, .int i_rowMany, .int i_thrown, x_read, .int i_length, .int i_top, .int i_at, .int i_wrong, .ref q0_comes, .ref q0_rule, .int i_ruleSize, .int i_isAsked, .int i_askedInches, .int i_askedPath, .int i_askedDay, .int i_askedRoof, .int i_askedBelow, .int i_askedLoose, .int i_slidesMany, .int i_owedNow, .ref q0_owedBy, .int i_slidInto, .ref q0_undos, .int i_undoMany, .ref q0_aside, .ref q0_acts, .ref q0_ring, .ref q0_bestRing, .int i_bestLength, .ref q0_nets, .ref q0_worked, .ref q0_then, .ref q0_plan, .ref q0_bestPlan, .ref q0_tried, .int i_setOff, .int i_letLie, .ref q0_tracks, .int i_trackMany, .int i_came, .ref q0_kept, .ref q0_isKept, .ref q0_keptCame]))]
set_option maxHeartbeats 4000000 in
set_option maxRecDepth 20000 in
theorem kX12_areTwo (l : Launch) (E : ENV) (q0 : Nat) (q0_now : Nat) (q0_hold : Nat) (q0_below : Nat) (q0_hay : Nat) (q0_weather : Nat) (q0_text : Nat) (q0_row : Nat) (q0_comes : Nat) (q0_rule : Nat) (q0_owedBy : Nat) (q0_undos : Nat) (q0_aside : Nat) (q0_acts : Nat) (q0_ring : Nat) (q0_bestRing : Nat) (q0_nets : Nat) (q0_worked : Nat) (q0_then : Nat) (q0_plan : Nat) (q0_bestPlan : Nat) (q0_tried : Nat) (q0_tracks : Nat) (q0_kept : Nat) (q0_isKept : Nat) (q0_keptCame : Nat) (i_houses : Int32) (i_weatherMany : Int32) (i_typed : Int32) (i_rowMany : Int32) (i_thrown : Int32) (x_read : Value) (i_length : Int32) (i_top : Int32) (i_at : Int32) (i_wrong : Int32) (i_ruleSize : Int32) (i_isAsked : Int32) (i_askedInches : Int32) (i_askedPath : Int32) (i_askedDay : Int32) (i_askedRoof : Int32) (i_askedBelow : Int32) (i_askedLoose : Int32) (i_slidesMany : Int32) (i_owedNow : Int32) (i_slidInto : Int32) (i_undoMany : Int32) (i_bestLength : Int32) (i_setOff : Int32) (i_letLie : Int32) (i_trackMany : Int32) (i_came : Int32) (p1 : Int32) (p2 : Int32) (r9 : Int32) (hf : fX12_areTwo i_houses p1 p2 = some r9) : CI l E yX12_areTwo cX12_areTwo 3 (some .boolean) 2 [.ref q0, .int p1, .int p2] (WX12_areTwo E q0 q0_now q0_hold q0_below q0_hay q0_weather q0_text q0_row q0_comes q0_rule q0_owedBy q0_undos q0_aside q0_acts q0_ring q0_bestRing q0_nets q0_worked q0_then q0_plan q0_bestPlan q0_tried q0_tracks q0_kept q0_isKept q0_keptCame i_houses i_weatherMany i_typed i_rowMany i_thrown x_read i_length i_top i_at i_wrong i_ruleSize i_isAsked i_askedInches i_askedPath i_askedDay i_askedRoof i_askedBelow i_askedLoose i_slidesMany i_owedNow i_slidInto i_undoMany i_bestLength i_setOff i_letLie i_trackMany i_came) (WX12_areTwo E q0 q0_now q0_hold q0_below q0_hay q0_weather q0_text q0_row q0_comes q0_rule q0_owedBy q0_undos q0_aside q0_acts q0_ring q0_bestRing q0_nets q0_worked q0_then q0_plan q0_bestPlan q0_tried q0_tracks q0_kept q0_isKept q0_keptCame i_houses i_weatherMany i_typed i_rowMany i_thrown x_read i_length i_top i_at i_wrong i_ruleSize i_isAsked i_askedInches i_askedPath i_askedDay i_askedRoof i_askedBelow i_askedLoose i_slidesMany i_owedNow i_slidInto i_undoMany i_bestLength i_setOff i_letLie i_trackMany i_came) r9 := by
  refine begI (by decide +kernel) (Nat.le_of_ble_eq_true rfl) ?_
  intro p e s m args below meth c A Q C hA hret
  have hx := C.1
  have hb := C.2.1
  intro H locs ls hl hP hD hS
  have hl : lv_has ls 3 [(0, .ref q0), (1, .int p1), (2, .int p2)] := hl
  unfold fX12_areTwo at hf
  refine lv_aload_n hx hb dX12_areTwo_0 rfl (lv_at hl 0 rfl) ?_
  refine lv_iload_n hx hb dX12_areTwo_1 rfl (lv_at hl 1 rfl) ?_
  obtain ⟨o1, hg2, hf⟩ := bd_some hf
  refine k_VI (As := [.int p1]) C K_RX12_101 (Nat.le_of_ble_eq_true rfl) (Nat.le_of_ble_eq_true rfl) (kX12_isHouse l E q0 q0_now q0_hold q0_below q0_hay q0_weather q0_text q0_row q0_comes q0_rule q0_owedBy q0_undos q0_aside q0_acts q0_ring q0_bestRing q0_nets q0_worked q0_then q0_plan q0_bestPlan q0_tried q0_tracks q0_kept q0_isKept q0_keptCame i_houses i_weatherMany i_typed i_rowMany i_thrown x_read i_length i_top i_at i_wrong i_ruleSize i_isAsked i_askedInches i_askedPath i_askedDay i_askedRoof i_askedBelow i_askedLoose i_slidesMany i_owedNow i_slidInto i_undoMany i_bestLength i_setOff i_letLie i_trackMany i_came p1 o1 hg2) [0] rfl rfl rfl (ci := 12) rfl rfl (q0 := 0) rfl hP hD hS hA hl.1 (Nat.le_of_ble_eq_true rfl) rfl dX12_areTwo_2 (fun H locs hP hD hS => ?_)
  have hP : va_P E.1 classes (WX12_areTwo E q0 q0_now q0_hold q0_below q0_hay q0_weather q0_text q0_row q0_comes q0_rule q0_owedBy q0_undos q0_aside q0_acts q0_ring q0_bestRing q0_nets q0_worked q0_then q0_plan q0_bestPlan q0_tried q0_tracks q0_kept q0_isKept q0_keptCame i_houses i_weatherMany i_typed i_rowMany i_thrown x_read i_length i_top i_at i_wrong i_ruleSize i_isAsked i_askedInches i_askedPath i_askedDay i_askedRoof i_askedBelow i_askedLoose i_slidesMany i_owedNow i_slidInto i_undoMany i_bestLength i_setOff i_letLie i_trackMany i_came) H := hP
  have hD : va_D A (WX12_areTwo E q0 q0_now q0_hold q0_below q0_hay q0_weather q0_text q0_row q0_comes q0_rule q0_owedBy q0_undos q0_aside q0_acts q0_ring q0_bestRing q0_nets q0_worked q0_then q0_plan q0_bestPlan q0_tried q0_tracks q0_kept q0_isKept q0_keptCame i_houses i_weatherMany i_typed i_rowMany i_thrown x_read i_length i_top i_at i_wrong i_ruleSize i_isAsked i_askedInches i_askedPath i_askedDay i_askedRoof i_askedBelow i_askedLoose i_slidesMany i_owedNow i_slidInto i_undoMany i_bestLength i_setOff i_letLie i_trackMany i_came) := hD
  refine lv_if_eq (tgt := 25) hx hb dX12_areTwo_5 (by decide) (fun c3 => ?_) (fun c3 => ?_)
  · rw [if_pos c3] at hf
    refine lv_iconst (v := 0) hx hb dX12_areTwo_25 (by decide) ?_
    have hj0 := Option.some.inj hf
    subst hj0
    exact hret _ _ _ _ dX12_areTwo_26 rfl hP hD hS
  · rw [if_neg c3] at hf
    refine lv_aload_n hx hb dX12_areTwo_8 rfl (lv_at hl 0 rfl) ?_
    refine lv_iload_n hx hb dX12_areTwo_9 rfl (lv_at hl 2 rfl) ?_
    obtain ⟨o4, hg5, hf⟩ := bd_some hf
    refine k_VI (As := [.int p2]) C K_RX12_101 (Nat.le_of_ble_eq_true rfl) (Nat.le_of_ble_eq_true rfl) (kX12_isHouse l E q0 q0_now q0_hold q0_below q0_hay q0_weather q0_text q0_row q0_comes q0_rule q0_owedBy q0_undos q0_aside q0_acts q0_ring q0_bestRing q0_nets q0_worked q0_then q0_plan q0_bestPlan q0_tried q0_tracks q0_kept q0_isKept q0_keptCame i_houses i_weatherMany i_typed i_rowMany i_thrown x_read i_length i_top i_at i_wrong i_ruleSize i_isAsked i_askedInches i_askedPath i_askedDay i_askedRoof i_askedBelow i_askedLoose i_slidesMany i_owedNow i_slidInto i_undoMany i_bestLength i_setOff i_letLie i_trackMany i_came p2 o4 hg5) [0] rfl rfl rfl (ci := 12) rfl rfl (q0 := 0) rfl hP hD hS hA hl.1 (Nat.le_of_ble_eq_true rfl) rfl dX12_areTwo_10 (fun H locs hP hD hS => ?_)
    have hP : va_P E.1 classes (WX12_areTwo E q0 q0_now q0_hold q0_below q0_hay q0_weather q0_text q0_row q0_comes q0_rule q0_owedBy q0_undos q0_aside q0_acts q0_ring q0_bestRing q0_nets q0_worked q0_then q0_plan q0_bestPlan q0_tried q0_tracks q0_kept q0_isKept q0_keptCame i_houses i_weatherMany i_typed i_rowMany i_thrown x_read i_length i_top i_at i_wrong i_ruleSize i_isAsked i_askedInches i_askedPath i_askedDay i_askedRoof i_askedBelow i_askedLoose i_slidesMany i_owedNow i_slidInto i_undoMany i_bestLength i_setOff i_letLie i_trackMany i_came) H := hP
    have hD : va_D A (WX12_areTwo E q0 q0_now q0_hold q0_below q0_hay q0_weather q0_text q0_row q0_comes q0_rule q0_owedBy q0_undos q0_aside q0_acts q0_ring q0_bestRing q0_nets q0_worked q0_then q0_plan q0_bestPlan q0_tried q0_tracks q0_kept q0_isKept q0_keptCame i_houses i_weatherMany i_typed i_rowMany i_thrown x_read i_length i_top i_at i_wrong i_ruleSize i_isAsked i_askedInches i_askedPath i_askedDay i_askedRoof i_askedBelow i_askedLoose i_slidesMany i_owedNow i_slidInto i_undoMany i_bestLength i_setOff i_letLie i_trackMany i_came) := hD
    refine lv_if_eq (tgt := 25) hx hb dX12_areTwo_13 (by decide) (fun c6 => ?_) (fun c6 => ?_)
    · rw [if_pos c6] at hf
      refine lv_iconst (v := 0) hx hb dX12_areTwo_25 (by decide) ?_
      have hj0 := Option.some.inj hf
      subst hj0
      exact hret _ _ _ _ dX12_areTwo_26 rfl hP hD hS
    · rw [if_neg c6] at hf
      refine lv_iload_n hx hb dX12_areTwo_16 rfl (lv_at hl 1 rfl) ?_
      refine lv_iload_n hx hb dX12_areTwo_17 rfl (lv_at hl 2 rfl) ?_
      refine lv_icmp_eq (tgt := 25) hx hb dX12_areTwo_18 (by decide) (fun c7 => ?_) (fun c7 => ?_)
      · rw [if_pos c7] at hf
        refine lv_iconst (v := 0) hx hb dX12_areTwo_25 (by decide) ?_
        have hj0 := Option.some.inj hf
        subst hj0
        exact hret _ _ _ _ dX12_areTwo_26 rfl hP hD hS
      · rw [if_neg c7] at hf
        refine lv_iconst (v := 1) hx hb dX12_areTwo_21 (by decide) ?_
        refine lv_goto (tgt := 26) hx hb dX12_areTwo_22 (by decide) ?_
        have hj0 := Option.some.inj hf
        subst hj0
        exact hret _ _ _ _ dX12_areTwo_26 rfl hP hD hS
theorem dX12_isSide_0 : decode cX12_isSide 0 = .ok (.iload_n 1, 1) := by decide +kernel
theorem dX12_isSide_1 : decode cX12_isSide 1 = .ok (.iconst 0, 1) := by decide +kernel
theorem dX12_isSide_2 : decode cX12_isSide 2 = .ok (.iconst 2, 1) := by decide +kernel
theorem dX12_isSide_3 : decode cX12_isSide 3 = .ok (.aload_n 0, 1) := by decide +kernel
theorem dX12_isSide_4 : decode cX12_isSide 4 = .ok (.getfield 94, 3) := by decide +kernel
theorem dX12_isSide_7 : decode cX12_isSide 7 = .ok (.imul, 1) := by decide +kernel
theorem dX12_isSide_8 : decode cX12_isSide 8 = .ok (.iconst 1, 1) := by decide +kernel
theorem dX12_isSide_9 : decode cX12_isSide 9 = .ok (.isub, 1) := by decide +kernel
theorem dX12_isSide_10 : decode cX12_isSide 10 = .ok (.invokestatic 97, 3) := by decide +kernel
theorem dX12_isSide_13 : decode cX12_isSide 13 = .ok (.ireturn, 1) := by decide +kernel
def WX12_isSide (E : ENV) (q0 : Nat) (q0_now : Nat) (q0_hold : Nat) (q0_below : Nat) (q0_hay : Nat) (q0_weather : Nat) (q0_text : Nat) (q0_row : Nat) (q0_comes : Nat) (q0_rule : Nat) (q0_owedBy : Nat) (q0_undos : Nat) (q0_aside : Nat) (q0_acts : Nat) (q0_ring : Nat) (q0_bestRing : Nat) (q0_nets : Nat) (q0_worked : Nat) (q0_then : Nat) (q0_plan : Nat) (q0_bestPlan : Nat) (q0_tried : Nat) (q0_tracks : Nat) (q0_kept : Nat) (q0_isKept : Nat) (q0_keptCame : Nat) (i_houses : Int32) (i_weatherMany : Int32) (i_typed : Int32) (i_rowMany : Int32) (i_thrown : Int32) (x_read : Value) (i_length : Int32) (i_top : Int32) (i_at : Int32) (i_wrong : Int32) (i_ruleSize : Int32) (i_isAsked : Int32) (i_askedInches : Int32) (i_askedPath : Int32) (i_askedDay : Int32) (i_askedRoof : Int32) (i_askedBelow : Int32) (i_askedLoose : Int32) (i_slidesMany : Int32) (i_owedNow : Int32) (i_slidInto : Int32) (i_undoMany : Int32) (i_bestLength : Int32) (i_setOff : Int32) (i_letLie : Int32) (i_trackMany : Int32) (i_came : Int32) : va_W := [(q0, .inr (12, [.ref q0_now, .int i_houses, .ref q0_hold, .ref q0_below, .ref q0_hay, .ref q0_weather, .int i_weatherMany, .ref q0_text, .int i_typed, .ref q0_row, .int i_rowMany, .int i_thrown, x_read, .int i_length, .int i_top, .int i_at, .int i_wrong, .ref q0_comes, .ref q0_rule, .int i_ruleSize, .int i_isAsked, .int i_askedInches, .int i_askedPath, .int i_askedDay, .int i_askedRoof, .int i_askedBelow, .int i_askedLoose, .int i_slidesMany, .int i_owedNow, .ref q0_owedBy, .int i_slidInto, .ref q0_undos, .int i_undoMany, .ref q0_aside, .ref q0_acts, .ref q0_ring, .ref q0_bestRing, .int i_bestLength, .ref q0_nets, .ref q0_worked, .ref q0_then, .ref q0_plan, .ref q0_bestPlan, .ref q0_tried, .int i_setOff, .int i_letLie, .ref q0_tracks, .int i_trackMany, .int i_came, .ref q0_kept, .ref q0_isKept, .ref q0_keptCame]))]
set_option maxHeartbeats 4000000 in
set_option maxRecDepth 20000 in
theorem kX12_isSide (l : Launch) (E : ENV) (q0 : Nat) (q0_now : Nat) (q0_hold : Nat) (q0_below : Nat) (q0_hay : Nat) (q0_weather : Nat) (q0_text : Nat) (q0_row : Nat) (q0_comes : Nat) (q0_rule : Nat) (q0_owedBy : Nat) (q0_undos : Nat) (q0_aside : Nat) (q0_acts : Nat) (q0_ring : Nat) (q0_bestRing : Nat) (q0_nets : Nat) (q0_worked : Nat) (q0_then : Nat) (q0_plan : Nat) (q0_bestPlan : Nat) (q0_tried : Nat) (q0_tracks : Nat) (q0_kept : Nat) (q0_isKept : Nat) (q0_keptCame : Nat) (i_houses : Int32) (i_weatherMany : Int32) (i_typed : Int32) (i_rowMany : Int32) (i_thrown : Int32) (x_read : Value) (i_length : Int32) (i_top : Int32) (i_at : Int32) (i_wrong : Int32) (i_ruleSize : Int32) (i_isAsked : Int32) (i_askedInches : Int32) (i_askedPath : Int32) (i_askedDay : Int32) (i_askedRoof : Int32) (i_askedBelow : Int32) (i_askedLoose : Int32) (i_slidesMany : Int32) (i_owedNow : Int32) (i_slidInto : Int32) (i_undoMany : Int32) (i_bestLength : Int32) (i_setOff : Int32) (i_letLie : Int32) (i_trackMany : Int32) (i_came : Int32) (p1 : Int32) (r9 : Int32) (hf : fX12_isSide i_houses p1 = some r9) : CI l E yX12_isSide cX12_isSide 2 (some .boolean) 1 [.ref q0, .int p1] (WX12_isSide E q0 q0_now q0_hold q0_below q0_hay q0_weather q0_text q0_row q0_comes q0_rule q0_owedBy q0_undos q0_aside q0_acts q0_ring q0_bestRing q0_nets q0_worked q0_then q0_plan q0_bestPlan q0_tried q0_tracks q0_kept q0_isKept q0_keptCame i_houses i_weatherMany i_typed i_rowMany i_thrown x_read i_length i_top i_at i_wrong i_ruleSize i_isAsked i_askedInches i_askedPath i_askedDay i_askedRoof i_askedBelow i_askedLoose i_slidesMany i_owedNow i_slidInto i_undoMany i_bestLength i_setOff i_letLie i_trackMany i_came) (WX12_isSide E q0 q0_now q0_hold q0_below q0_hay q0_weather q0_text q0_row q0_comes q0_rule q0_owedBy q0_undos q0_aside q0_acts q0_ring q0_bestRing q0_nets q0_worked q0_then q0_plan q0_bestPlan q0_tried q0_tracks q0_kept q0_isKept q0_keptCame i_houses i_weatherMany i_typed i_rowMany i_thrown x_read i_length i_top i_at i_wrong i_ruleSize i_isAsked i_askedInches i_askedPath i_askedDay i_askedRoof i_askedBelow i_askedLoose i_slidesMany i_owedNow i_slidInto i_undoMany i_bestLength i_setOff i_letLie i_trackMany i_came) r9 := by
  refine begI (by decide +kernel) (Nat.le_of_ble_eq_true rfl) ?_
  intro p e s m args below meth c A Q C hA hret
  have hx := C.1
  have hb := C.2.1
  intro H locs ls hl hP hD hS
  have hl : lv_has ls 2 [(0, .ref q0), (1, .int p1)] := hl
  unfold fX12_isSide at hf
  refine lv_iload_n hx hb dX12_isSide_0 rfl (lv_at hl 1 rfl) ?_
  refine lv_iconst (v := 0) hx hb dX12_isSide_1 (by decide) ?_
  refine lv_iconst (v := 2) hx hb dX12_isSide_2 (by decide) ?_
  refine lv_aload_n hx hb dX12_isSide_3 rfl (lv_at hl 0 rfl) ?_
  refine gf_RX12_94 C hP 0 rfl rfl dX12_isSide_4 ?_
  refine lv_imul hx hb dX12_isSide_7 ?_
  refine lv_iconst (v := 1) hx hb dX12_isSide_8 (by decide) ?_
  refine lv_isub hx hb dX12_isSide_9 ?_
  obtain ⟨o1, hg2, hf⟩ := bd_some hf
  refine k_SI (As := [.int p1, .int 0, .int ((((2 * i_houses)) - 1))]) C K_RX12_97 (Nat.le_of_ble_eq_true rfl) (Nat.le_of_ble_eq_true rfl) (kX12_in l E p1 0 ((((2 * i_houses)) - 1)) o1 hg2) [] rfl rfl rfl  hP hD hS hA hl.1 (Nat.le_of_ble_eq_true rfl) rfl dX12_isSide_10 (fun H locs hP hD hS => ?_)
  have hP : va_P E.1 classes (WX12_isSide E q0 q0_now q0_hold q0_below q0_hay q0_weather q0_text q0_row q0_comes q0_rule q0_owedBy q0_undos q0_aside q0_acts q0_ring q0_bestRing q0_nets q0_worked q0_then q0_plan q0_bestPlan q0_tried q0_tracks q0_kept q0_isKept q0_keptCame i_houses i_weatherMany i_typed i_rowMany i_thrown x_read i_length i_top i_at i_wrong i_ruleSize i_isAsked i_askedInches i_askedPath i_askedDay i_askedRoof i_askedBelow i_askedLoose i_slidesMany i_owedNow i_slidInto i_undoMany i_bestLength i_setOff i_letLie i_trackMany i_came) H := hP
  have hD : va_D A (WX12_isSide E q0 q0_now q0_hold q0_below q0_hay q0_weather q0_text q0_row q0_comes q0_rule q0_owedBy q0_undos q0_aside q0_acts q0_ring q0_bestRing q0_nets q0_worked q0_then q0_plan q0_bestPlan q0_tried q0_tracks q0_kept q0_isKept q0_keptCame i_houses i_weatherMany i_typed i_rowMany i_thrown x_read i_length i_top i_at i_wrong i_ruleSize i_isAsked i_askedInches i_askedPath i_askedDay i_askedRoof i_askedBelow i_askedLoose i_slidesMany i_owedNow i_slidInto i_undoMany i_bestLength i_setOff i_letLie i_trackMany i_came) := hD
  obtain ⟨g3, hf⟩ := gd_some hf
  have hj0 := Option.some.inj hf
  subst hj0
  exact hret _ _ _ _ dX12_isSide_13 (isb_n g3) hP hD hS
theorem q1334 : Cond.fieldLink RX12 105 "SnowForSummerModel" "typed" "I" ∈ Tg := Tg_mem 1334 (by decide +kernel) (by decide +kernel)
theorem gf_RX12_105 {p : Program} {l : Launch} {e : Env} {R : Room} {s : State} {m : MethodId} {args : Array Value} {below : List Frame} {meth : Method} {c : Code} {H : Heap} {locs : List Loc} {cells slots : Nat} {Q : State → Prop} {E : ENV} {cc : ByteArray} {n : Nat} {r : Option FieldType} {pc : Nat} {ls : Array Slot} {rest : List Value} {a : Nat} {ws : va_W} {nm ds : String} {fs : List Value} {A : Nat → Prop} {v : Value} (C : Cx E A ⟨RX12, nm, ds⟩ cc n r p s m args meth c) (hP : va_P E.1 classes ws H) (q0 : Nat) (he : ws[q0]? = some (a, .inr (12, fs))) (hv : fs[8]? = some v) (hdg : decode cc pc = .ok (.getfield 105, 3))
    (kk : W p l e R s m args below meth c H locs cells slots Q (F0 m (pc + 3) ls (v :: rest))) : W p l e R s m args below meth c H locs cells slots Q (F0 m pc ls (.ref a :: rest)) :=
  va_get (C := RX12) (T := TX12) (N := 52) (Ts := wl ⟨RX12, nm, ds⟩ cc n r) C.1 C.2.1 C.2.2.2.2.1 (fun w h => List.mem_cons_of_mem _ (inT12 w h)) C.2.2.2.1 C.2.2.2.2.2.1 hP q0 he rfl 8 (by decide) (C.2.2.2.2.1 _ (List.mem_cons_of_mem _ q1334)) (fun _ h9 => h9) hv hdg kk
theorem q1333 : Cond.fieldLink RX12 25 "SnowForSummerModel" "text" "[B" ∈ Tg := Tg_mem 1333 (by decide +kernel) (by decide +kernel)
theorem gf_RX12_25 {p : Program} {l : Launch} {e : Env} {R : Room} {s : State} {m : MethodId} {args : Array Value} {below : List Frame} {meth : Method} {c : Code} {H : Heap} {locs : List Loc} {cells slots : Nat} {Q : State → Prop} {E : ENV} {cc : ByteArray} {n : Nat} {r : Option FieldType} {pc : Nat} {ls : Array Slot} {rest : List Value} {a : Nat} {ws : va_W} {nm ds : String} {fs : List Value} {A : Nat → Prop} {v : Value} (C : Cx E A ⟨RX12, nm, ds⟩ cc n r p s m args meth c) (hP : va_P E.1 classes ws H) (q0 : Nat) (he : ws[q0]? = some (a, .inr (12, fs))) (hv : fs[7]? = some v) (hdg : decode cc pc = .ok (.getfield 25, 3))
    (kk : W p l e R s m args below meth c H locs cells slots Q (F0 m (pc + 3) ls (v :: rest))) : W p l e R s m args below meth c H locs cells slots Q (F0 m pc ls (.ref a :: rest)) :=
  va_get (C := RX12) (T := TX12) (N := 52) (Ts := wl ⟨RX12, nm, ds⟩ cc n r) C.1 C.2.1 C.2.2.2.2.1 (fun w h => List.mem_cons_of_mem _ (inT12 w h)) C.2.2.2.1 C.2.2.2.2.2.1 hP q0 he rfl 7 (by decide) (C.2.2.2.2.1 _ (List.mem_cons_of_mem _ q1333)) (fun _ h9 => h9) hv hdg kk
theorem pf_RX12_105 {p : Program} {l : Launch} {e : Env} {R : Room} {s : State} {m : MethodId} {args : Array Value} {below : List Frame} {meth : Method} {c : Code} {H : Heap} {locs : List Loc} {cells slots : Nat} {Q : State → Prop} {E : ENV} {cc : ByteArray} {n : Nat} {r : Option FieldType} {pc : Nat} {ls : Array Slot} {rest : List Value} {a : Nat} {ws : va_W} {nm ds : String} {fs : List Value} {A : Nat → Prop} {H0 : Heap} {x : Int32} (C : Cx E A ⟨RX12, nm, ds⟩ cc n r p s m args meth c) (hP : va_P E.1 classes ws H) (hD : va_D A ws) (hS : va_S A H0 H locs) (q0 : Nat) (he : ws[q0]? = some (a, .inr (12, fs))) (hl : 8 < fs.length) (hdg : decode cc pc = .ok (.putfield 105, 3))
    (kk : ∀ (H1 : Heap) (locs1 : List Loc), va_P E.1 classes (ws.set q0 (a, .inr (12, fs.set 8 (.int x)))) H1 → va_D A (ws.set q0 (a, .inr (12, fs.set 8 (.int x)))) → va_S A H0 H1 locs1 → W p l e R s m args below meth c H1 locs1 cells slots Q (F0 m (pc + 3) ls rest)) : W p l e R s m args below meth c H locs cells slots Q (F0 m pc ls (.int x :: .ref a :: rest)) :=
  va_put (C := RX12) (T := TX12) (N := 52) (ty := .int) (Ts := wl ⟨RX12, nm, ds⟩ cc n r) C.1 C.2.1 C.2.2.2.2.1 (fun w h => List.mem_cons_of_mem _ (inT12 w h)) tyX12 tyX12_ok nmX12 C.2.2.2.1 C.2.2.2.2.2.1 hP hD hS q0 he rfl 8 (by decide) (C.2.2.2.2.1 _ (List.mem_cons_of_mem _ q1334)) (fun _ h9 => h9) rfl (by decide +kernel) rfl rfl hl hdg kk
theorem dX12_sign_0 : decode cX12_sign 0 = .ok (.aload_n 0, 1) := by decide +kernel
theorem dX12_sign_1 : decode cX12_sign 1 = .ok (.iconst 0, 1) := by decide +kernel
theorem dX12_sign_2 : decode cX12_sign 2 = .ok (.putfield 87, 3) := by decide +kernel
theorem dX12_sign_5 : decode cX12_sign 5 = .ok (.aload_n 0, 1) := by decide +kernel
theorem dX12_sign_6 : decode cX12_sign 6 = .ok (.getfield 105, 3) := by decide +kernel
theorem dX12_sign_9 : decode cX12_sign 9 = .ok (.iconst 4, 1) := by decide +kernel
theorem dX12_sign_10 : decode cX12_sign 10 = .ok (.iadd, 1) := by decide +kernel
theorem dX12_sign_11 : decode cX12_sign 11 = .ok (.bipush 80, 2) := by decide +kernel
theorem dX12_sign_13 : decode cX12_sign 13 = .ok (.if_icmp .le 5, 3) := by decide +kernel
theorem dX12_sign_16 : decode cX12_sign 16 = .ok (.iconst (-1), 1) := by decide +kernel
theorem dX12_sign_17 : decode cX12_sign 17 = .ok (.ireturn, 1) := by decide +kernel
theorem dX12_sign_18 : decode cX12_sign 18 = .ok (.iconst 3, 1) := by decide +kernel
theorem dX12_sign_19 : decode cX12_sign 19 = .ok (.istore_n 2, 1) := by decide +kernel
theorem dX12_sign_20 : decode cX12_sign 20 = .ok (.iload_n 2, 1) := by decide +kernel
theorem dX12_sign_21 : decode cX12_sign 21 = .ok (.ifCond .lt 32, 3) := by decide +kernel
theorem dX12_sign_24 : decode cX12_sign 24 = .ok (.aload_n 0, 1) := by decide +kernel
theorem dX12_sign_25 : decode cX12_sign 25 = .ok (.getfield 25, 3) := by decide +kernel
theorem dX12_sign_28 : decode cX12_sign 28 = .ok (.aload_n 0, 1) := by decide +kernel
theorem dX12_sign_29 : decode cX12_sign 29 = .ok (.dup, 1) := by decide +kernel
theorem dX12_sign_30 : decode cX12_sign 30 = .ok (.getfield 105, 3) := by decide +kernel
theorem dX12_sign_33 : decode cX12_sign 33 = .ok (.dup_x1, 1) := by decide +kernel
theorem dX12_sign_34 : decode cX12_sign 34 = .ok (.iconst 1, 1) := by decide +kernel
theorem dX12_sign_35 : decode cX12_sign 35 = .ok (.iadd, 1) := by decide +kernel
theorem dX12_sign_36 : decode cX12_sign 36 = .ok (.putfield 105, 3) := by decide +kernel
theorem dX12_sign_39 : decode cX12_sign 39 = .ok (.iload_n 1, 1) := by decide +kernel
theorem dX12_sign_40 : decode cX12_sign 40 = .ok (.bipush 8, 2) := by decide +kernel
theorem dX12_sign_42 : decode cX12_sign 42 = .ok (.iload_n 2, 1) := by decide +kernel
theorem dX12_sign_43 : decode cX12_sign 43 = .ok (.imul, 1) := by decide +kernel
theorem dX12_sign_44 : decode cX12_sign 44 = .ok (.ishr, 1) := by decide +kernel
theorem dX12_sign_45 : decode cX12_sign 45 = .ok (.i2b, 1) := by decide +kernel
theorem dX12_sign_46 : decode cX12_sign 46 = .ok (.bastore, 1) := by decide +kernel
theorem dX12_sign_47 : decode cX12_sign 47 = .ok (.iinc 2 (-1), 3) := by decide +kernel
theorem dX12_sign_50 : decode cX12_sign 50 = .ok (.goto (-30), 3) := by decide +kernel
theorem dX12_sign_53 : decode cX12_sign 53 = .ok (.aload_n 0, 1) := by decide +kernel
theorem dX12_sign_54 : decode cX12_sign 54 = .ok (.getfield 105, 3) := by decide +kernel
theorem dX12_sign_57 : decode cX12_sign 57 = .ok (.ireturn, 1) := by decide +kernel
def WX12_sign (E : ENV) (q0 : Nat) (q0_now : Nat) (q0_hold : Nat) (q0_below : Nat) (q0_hay : Nat) (q0_weather : Nat) (q0_text : Nat) (q0_row : Nat) (q0_comes : Nat) (q0_rule : Nat) (q0_owedBy : Nat) (q0_undos : Nat) (q0_aside : Nat) (q0_acts : Nat) (q0_ring : Nat) (q0_bestRing : Nat) (q0_nets : Nat) (q0_worked : Nat) (q0_then : Nat) (q0_plan : Nat) (q0_bestPlan : Nat) (q0_tried : Nat) (q0_tracks : Nat) (q0_kept : Nat) (q0_isKept : Nat) (q0_keptCame : Nat) (i_houses : Int32) (i_weatherMany : Int32) (i_typed : Int32) (i_rowMany : Int32) (i_thrown : Int32) (x_read : Value) (i_length : Int32) (i_top : Int32) (i_at : Int32) (i_wrong : Int32) (i_ruleSize : Int32) (i_isAsked : Int32) (i_askedInches : Int32) (i_askedPath : Int32) (i_askedDay : Int32) (i_askedRoof : Int32) (i_askedBelow : Int32) (i_askedLoose : Int32) (i_slidesMany : Int32) (i_owedNow : Int32) (i_slidInto : Int32) (i_undoMany : Int32) (i_bestLength : Int32) (i_setOff : Int32) (i_letLie : Int32) (i_trackMany : Int32) (i_came : Int32) (a_text : Nat → Int32) : va_W := [(q0, .inr (12, [.ref q0_now, .int i_houses, .ref q0_hold, .ref q0_below, .ref q0_hay, .ref q0_weather, .int i_weatherMany, .ref q0_text, .int i_typed, .ref q0_row, .int i_rowMany, .int i_thrown, x_read, .int i_length, .int i_top, .int i_at, .int i_wrong, .ref q0_comes, .ref q0_rule, .int i_ruleSize, .int i_isAsked, .int i_askedInches, .int i_askedPath, .int i_askedDay, .int i_askedRoof, .int i_askedBelow, .int i_askedLoose, .int i_slidesMany, .int i_owedNow, .ref q0_owedBy, .int i_slidInto, .ref q0_undos, .int i_undoMany, .ref q0_aside, .ref q0_acts, .ref q0_ring, .ref q0_bestRing, .int i_bestLength, .ref q0_nets, .ref q0_worked, .ref q0_then, .ref q0_plan, .ref q0_bestPlan, .ref q0_tried, .int i_setOff, .int i_letLie, .ref q0_tracks, .int i_trackMany, .int i_came, .ref q0_kept, .ref q0_isKept, .ref q0_keptCame])), (q0_text, .inl (E.2.2.1, 80, .inl a_text))]
set_option maxHeartbeats 4000000 in
set_option maxRecDepth 20000 in
theorem kX12_sign (l : Launch) (E : ENV) (q0 : Nat) (q0_now : Nat) (q0_hold : Nat) (q0_below : Nat) (q0_hay : Nat) (q0_weather : Nat) (q0_text : Nat) (q0_row : Nat) (q0_comes : Nat) (q0_rule : Nat) (q0_owedBy : Nat) (q0_undos : Nat) (q0_aside : Nat) (q0_acts : Nat) (q0_ring : Nat) (q0_bestRing : Nat) (q0_nets : Nat) (q0_worked : Nat) (q0_then : Nat) (q0_plan : Nat) (q0_bestPlan : Nat) (q0_tried : Nat) (q0_tracks : Nat) (q0_kept : Nat) (q0_isKept : Nat) (q0_keptCame : Nat) (i_houses : Int32) (i_weatherMany : Int32) (i_typed : Int32) (i_rowMany : Int32) (i_thrown : Int32) (x_read : Value) (i_length : Int32) (i_top : Int32) (i_at : Int32) (i_wrong : Int32) (i_ruleSize : Int32) (i_isAsked : Int32) (i_askedInches : Int32) (i_askedPath : Int32) (i_askedDay : Int32) (i_askedRoof : Int32) (i_askedBelow : Int32) (i_askedLoose : Int32) (i_slidesMany : Int32) (i_owedNow : Int32) (i_slidInto : Int32) (i_undoMany : Int32) (i_bestLength : Int32) (i_setOff : Int32) (i_letLie : Int32) (i_trackMany : Int32) (i_came : Int32) (a_text : Nat → Int32) (p1 : Int32) (r9 : Int32) (i_typed9 : Int32) (i_thrown9 : Int32) (a_text9 : Nat → Int32) (hf : fX12_sign i_typed i_thrown a_text p1 = some (r9, i_typed9, i_thrown9, a_text9)) : CI l E yX12_sign cX12_sign 3 (some .int) 0 [.ref q0, .int p1] (WX12_sign E q0 q0_now q0_hold q0_below q0_hay q0_weather q0_text q0_row q0_comes q0_rule q0_owedBy q0_undos q0_aside q0_acts q0_ring q0_bestRing q0_nets q0_worked q0_then q0_plan q0_bestPlan q0_tried q0_tracks q0_kept q0_isKept q0_keptCame i_houses i_weatherMany i_typed i_rowMany i_thrown x_read i_length i_top i_at i_wrong i_ruleSize i_isAsked i_askedInches i_askedPath i_askedDay i_askedRoof i_askedBelow i_askedLoose i_slidesMany i_owedNow i_slidInto i_undoMany i_bestLength i_setOff i_letLie i_trackMany i_came a_text) (WX12_sign E q0 q0_now q0_hold q0_below q0_hay q0_weather q0_text q0_row q0_comes q0_rule q0_owedBy q0_undos q0_aside q0_acts q0_ring q0_bestRing q0_nets q0_worked q0_then q0_plan q0_bestPlan q0_tried q0_tracks q0_kept q0_isKept q0_keptCame i_houses i_weatherMany i_typed9 i_rowMany i_thrown9 x_read i_length i_top i_at i_wrong i_ruleSize i_isAsked i_askedInches i_askedPath i_askedDay i_askedRoof i_askedBelow i_askedLoose i_slidesMany i_owedNow i_slidInto i_undoMany i_bestLength i_setOff i_letLie i_trackMany i_came a_text9) r9 := by
  refine begI (by decide +kernel) (Nat.le_of_ble_eq_true rfl) ?_
  intro p e s m args below meth c A Q C hA hret
  have hx := C.1
  have hb := C.2.1
  have L20 : ∀ (i_thrown : Int32), ∀ (n : Nat) (v2 : Int32) (i_typed : Int32) (a_text : Nat → Int32) (o : Int32 × (Nat → Int32)), fX12_sign_L20 p1 n v2 i_typed a_text = some o → (GO p l e 0 s m args below meth c Q E A 3 53 [] [(0, .ref q0)] (WX12_sign E q0 q0_now q0_hold q0_below q0_hay q0_weather q0_text q0_row q0_comes q0_rule q0_owedBy q0_undos q0_aside q0_acts q0_ring q0_bestRing q0_nets q0_worked q0_then q0_plan q0_bestPlan q0_tried q0_tracks q0_kept q0_isKept q0_keptCame i_houses i_weatherMany o.1 i_rowMany i_thrown x_read i_length i_top i_at i_wrong i_ruleSize i_isAsked i_askedInches i_askedPath i_askedDay i_askedRoof i_askedBelow i_askedLoose i_slidesMany i_owedNow i_slidInto i_undoMany i_bestLength i_setOff i_letLie i_trackMany i_came o.2)) → GO p l e 0 s m args below meth c Q E A 3 20 [] [(0, .ref q0), (1, .int p1), (2, .int v2)] (WX12_sign E q0 q0_now q0_hold q0_below q0_hay q0_weather q0_text q0_row q0_comes q0_rule q0_owedBy q0_undos q0_aside q0_acts q0_ring q0_bestRing q0_nets q0_worked q0_then q0_plan q0_bestPlan q0_tried q0_tracks q0_kept q0_isKept q0_keptCame i_houses i_weatherMany i_typed i_rowMany i_thrown x_read i_length i_top i_at i_wrong i_ruleSize i_isAsked i_askedInches i_askedPath i_askedDay i_askedRoof i_askedBelow i_askedLoose i_slidesMany i_owedNow i_slidInto i_undoMany i_bestLength i_setOff i_letLie i_trackMany i_came a_text) := by
    intro i_thrown
    intro n
    induction n with
    | zero =>
      intro v2 i_typed a_text o hf
      have hf : none = some o := hf
      cases hf
    | succ n ih =>
      intro v2 i_typed a_text o hf hE
      intro H locs ls hl hP hD hS
      rw [fX12_sign_L20] at hf
      refine lv_iload_n hx hb dX12_sign_20 rfl (lv_at hl 2 rfl) ?_
      refine lv_if_lt (tgt := 53) hx hb dX12_sign_21 (by decide) (fun c2 => ?_) (fun c2 => ?_)
      · rw [if_pos c2] at hf
        have hf := Option.some.inj hf
        subst hf
        exact hE _ _ _ (lv_sub hl [0] rfl) hP hD hS
      · rw [if_neg c2] at hf
        refine lv_aload_n hx hb dX12_sign_24 rfl (lv_at hl 0 rfl) ?_
        refine gf_RX12_25 C hP 0 rfl rfl dX12_sign_25 ?_
        refine lv_aload_n hx hb dX12_sign_28 rfl (lv_at hl 0 rfl) ?_
        refine lv_dup hx hb dX12_sign_29 rfl ?_
        refine gf_RX12_105 C hP 0 rfl rfl dX12_sign_30 ?_
        refine lv_dup_x1 hx hb dX12_sign_33 rfl rfl ?_
        refine lv_iconst (v := 1) hx hb dX12_sign_34 (by decide) ?_
        refine lv_iadd hx hb dX12_sign_35 ?_
        refine pf_RX12_105 C hP hD hS 0 rfl (Nat.le_of_ble_eq_true rfl) dX12_sign_36 (fun H locs hP hD hS => ?_)
        have hP : va_P E.1 classes (WX12_sign E q0 q0_now q0_hold q0_below q0_hay q0_weather q0_text q0_row q0_comes q0_rule q0_owedBy q0_undos q0_aside q0_acts q0_ring q0_bestRing q0_nets q0_worked q0_then q0_plan q0_bestPlan q0_tried q0_tracks q0_kept q0_isKept q0_keptCame i_houses i_weatherMany ((i_typed + 1)) i_rowMany i_thrown x_read i_length i_top i_at i_wrong i_ruleSize i_isAsked i_askedInches i_askedPath i_askedDay i_askedRoof i_askedBelow i_askedLoose i_slidesMany i_owedNow i_slidInto i_undoMany i_bestLength i_setOff i_letLie i_trackMany i_came a_text) H := hP
        have hD : va_D A (WX12_sign E q0 q0_now q0_hold q0_below q0_hay q0_weather q0_text q0_row q0_comes q0_rule q0_owedBy q0_undos q0_aside q0_acts q0_ring q0_bestRing q0_nets q0_worked q0_then q0_plan q0_bestPlan q0_tried q0_tracks q0_kept q0_isKept q0_keptCame i_houses i_weatherMany ((i_typed + 1)) i_rowMany i_thrown x_read i_length i_top i_at i_wrong i_ruleSize i_isAsked i_askedInches i_askedPath i_askedDay i_askedRoof i_askedBelow i_askedLoose i_slidesMany i_owedNow i_slidInto i_undoMany i_bestLength i_setOff i_letLie i_trackMany i_came a_text) := hD
        refine lv_iload_n hx hb dX12_sign_39 rfl (lv_at hl 1 rfl) ?_
        refine lv_bipush (v := 8) hx hb dX12_sign_40 (by decide) ?_
        refine lv_iload_n hx hb dX12_sign_42 rfl (lv_at hl 2 rfl) ?_
        refine lv_imul hx hb dX12_sign_43 ?_
        refine lv_ishr hx hb dX12_sign_44 ?_
        refine lv_i2b (v := (((p1 >>> (((8 * v2)) &&& 31))).toInt8.toInt32)) hx hb dX12_sign_45 rfl ?_
        obtain ⟨g3, hf⟩ := gd_some hf
        refine va_bast hx hb C.2.2.2.2.2.1 hP hD hS 1 1 rfl rfl (vin_in g3) dX12_sign_46 (fun H locs hP hD hS => ?_)
        have hP : va_P E.1 classes (WX12_sign E q0 q0_now q0_hold q0_below q0_hay q0_weather q0_text q0_row q0_comes q0_rule q0_owedBy q0_undos q0_aside q0_acts q0_ring q0_bestRing q0_nets q0_worked q0_then q0_plan q0_bestPlan q0_tried q0_tracks q0_kept q0_isKept q0_keptCame i_houses i_weatherMany ((i_typed + 1)) i_rowMany i_thrown x_read i_length i_top i_at i_wrong i_ruleSize i_isAsked i_askedInches i_askedPath i_askedDay i_askedRoof i_askedBelow i_askedLoose i_slidesMany i_owedNow i_slidInto i_undoMany i_bestLength i_setOff i_letLie i_trackMany i_came ((upd a_text (i_typed : Int32).toNatClampNeg (vp_nar .byte ((((p1 >>> (((8 * v2)) &&& 31))).toInt8.toInt32)))))) H := hP
        have hD : va_D A (WX12_sign E q0 q0_now q0_hold q0_below q0_hay q0_weather q0_text q0_row q0_comes q0_rule q0_owedBy q0_undos q0_aside q0_acts q0_ring q0_bestRing q0_nets q0_worked q0_then q0_plan q0_bestPlan q0_tried q0_tracks q0_kept q0_isKept q0_keptCame i_houses i_weatherMany ((i_typed + 1)) i_rowMany i_thrown x_read i_length i_top i_at i_wrong i_ruleSize i_isAsked i_askedInches i_askedPath i_askedDay i_askedRoof i_askedBelow i_askedLoose i_slidesMany i_owedNow i_slidInto i_undoMany i_bestLength i_setOff i_letLie i_trackMany i_came ((upd a_text (i_typed : Int32).toNatClampNeg (vp_nar .byte ((((p1 >>> (((8 * v2)) &&& 31))).toInt8.toInt32)))))) := hD
        refine lv_iinc (v := (v2 + (-1))) (lv' := [(2, .int ((v2 + (-1)))), (0, .ref q0), (1, .int p1)]) hx hb dX12_sign_47 hl (k := 2) rfl rfl (by decide) rfl (fun ls hl => ?_)
        refine lv_goto (tgt := 20) hx hb dX12_sign_50 (by decide) ?_
        exact ih ((v2 + (-1))) ((i_typed + 1)) ((upd a_text (i_typed : Int32).toNatClampNeg (vp_nar .byte ((((p1 >>> (((8 * v2)) &&& 31))).toInt8.toInt32))))) _ hf hE _ _ _ (lv_sub hl [1, 2, 0] rfl) hP hD hS
  intro H locs ls hl hP hD hS
  have hl : lv_has ls 3 [(0, .ref q0), (1, .int p1)] := hl
  unfold fX12_sign at hf
  refine lv_aload_n hx hb dX12_sign_0 rfl (lv_at hl 0 rfl) ?_
  refine lv_iconst (v := 0) hx hb dX12_sign_1 (by decide) ?_
  refine pf_RX12_87 C hP hD hS 0 rfl (Nat.le_of_ble_eq_true rfl) dX12_sign_2 (fun H locs hP hD hS => ?_)
  have hP : va_P E.1 classes (WX12_sign E q0 q0_now q0_hold q0_below q0_hay q0_weather q0_text q0_row q0_comes q0_rule q0_owedBy q0_undos q0_aside q0_acts q0_ring q0_bestRing q0_nets q0_worked q0_then q0_plan q0_bestPlan q0_tried q0_tracks q0_kept q0_isKept q0_keptCame i_houses i_weatherMany i_typed i_rowMany 0 x_read i_length i_top i_at i_wrong i_ruleSize i_isAsked i_askedInches i_askedPath i_askedDay i_askedRoof i_askedBelow i_askedLoose i_slidesMany i_owedNow i_slidInto i_undoMany i_bestLength i_setOff i_letLie i_trackMany i_came a_text) H := hP
  have hD : va_D A (WX12_sign E q0 q0_now q0_hold q0_below q0_hay q0_weather q0_text q0_row q0_comes q0_rule q0_owedBy q0_undos q0_aside q0_acts q0_ring q0_bestRing q0_nets q0_worked q0_then q0_plan q0_bestPlan q0_tried q0_tracks q0_kept q0_isKept q0_keptCame i_houses i_weatherMany i_typed i_rowMany 0 x_read i_length i_top i_at i_wrong i_ruleSize i_isAsked i_askedInches i_askedPath i_askedDay i_askedRoof i_askedBelow i_askedLoose i_slidesMany i_owedNow i_slidInto i_undoMany i_bestLength i_setOff i_letLie i_trackMany i_came a_text) := hD
  refine lv_aload_n hx hb dX12_sign_5 rfl (lv_at hl 0 rfl) ?_
  refine gf_RX12_105 C hP 0 rfl rfl dX12_sign_6 ?_
  refine lv_iconst (v := 4) hx hb dX12_sign_9 (by decide) ?_
  refine lv_iadd hx hb dX12_sign_10 ?_
  refine lv_bipush (v := 80) hx hb dX12_sign_11 (by decide) ?_
  refine lv_icmp_le (tgt := 18) hx hb dX12_sign_13 (by decide) (fun c1 => ?_) (fun c1 => ?_)
  · rw [if_pos c1] at hf
    refine lv_iconst (v := 3) hx hb dX12_sign_18 (by decide) ?_
    refine lv_istore_n (lv' := [(2, .int 3), (0, .ref q0), (1, .int p1)]) hx hb dX12_sign_19 rfl hl (by decide) rfl (fun ls hl => ?_)
    obtain ⟨o4, hg5, hf⟩ := bd_some hf
    refine L20 0 FU 3 i_typed a_text o4 hg5 ?_ _ _ _ (lv_sub hl [1, 2, 0] rfl) hP hD hS
    intro H locs ls hl hP hD hS
    refine lv_aload_n hx hb dX12_sign_53 rfl (lv_at hl 0 rfl) ?_
    refine gf_RX12_105 C hP 0 rfl rfl dX12_sign_54 ?_
    have hj0 := Option.some.inj hf
    obtain ⟨ha0, hj1⟩ := Prod.mk.inj hj0
    obtain ⟨ha1, hj2⟩ := Prod.mk.inj hj1
    obtain ⟨ha2, hj3⟩ := Prod.mk.inj hj2
    subst ha0
    subst ha1
    subst ha2
    subst hj3
    exact hret _ _ _ _ dX12_sign_57 rfl hP hD hS
  · rw [if_neg c1] at hf
    refine lv_iconst (v := (-1)) hx hb dX12_sign_16 (by decide) ?_
    have hj0 := Option.some.inj hf
    obtain ⟨ha0, hj1⟩ := Prod.mk.inj hj0
    obtain ⟨ha1, hj2⟩ := Prod.mk.inj hj1
    obtain ⟨ha2, hj3⟩ := Prod.mk.inj hj2
    subst ha0
    subst ha1
    subst ha2
    subst hj3
    exact hret _ _ _ _ dX12_sign_17 rfl hP hD hS
theorem dX12_end_0 : decode cX12_end 0 = .ok (.aload_n 0, 1) := by decide +kernel
theorem dX12_end_1 : decode cX12_end 1 = .ok (.iconst 0, 1) := by decide +kernel
theorem dX12_end_2 : decode cX12_end 2 = .ok (.putfield 87, 3) := by decide +kernel
theorem dX12_end_5 : decode cX12_end 5 = .ok (.iload_n 1, 1) := by decide +kernel
theorem dX12_end_6 : decode cX12_end 6 = .ok (.iconst 0, 1) := by decide +kernel
theorem dX12_end_7 : decode cX12_end 7 = .ok (.aload_n 0, 1) := by decide +kernel
theorem dX12_end_8 : decode cX12_end 8 = .ok (.getfield 105, 3) := by decide +kernel
theorem dX12_end_11 : decode cX12_end 11 = .ok (.invokestatic 97, 3) := by decide +kernel
theorem dX12_end_14 : decode cX12_end 14 = .ok (.ifCond .ne 5, 3) := by decide +kernel
theorem dX12_end_17 : decode cX12_end 17 = .ok (.iconst 0, 1) := by decide +kernel
theorem dX12_end_18 : decode cX12_end 18 = .ok (.ireturn, 1) := by decide +kernel
theorem dX12_end_19 : decode cX12_end 19 = .ok (.aload_n 0, 1) := by decide +kernel
theorem dX12_end_20 : decode cX12_end 20 = .ok (.iload_n 1, 1) := by decide +kernel
theorem dX12_end_21 : decode cX12_end 21 = .ok (.putfield 105, 3) := by decide +kernel
theorem dX12_end_24 : decode cX12_end 24 = .ok (.iconst 1, 1) := by decide +kernel
theorem dX12_end_25 : decode cX12_end 25 = .ok (.ireturn, 1) := by decide +kernel
def WX12_end (E : ENV) (q0 : Nat) (q0_now : Nat) (q0_hold : Nat) (q0_below : Nat) (q0_hay : Nat) (q0_weather : Nat) (q0_text : Nat) (q0_row : Nat) (q0_comes : Nat) (q0_rule : Nat) (q0_owedBy : Nat) (q0_undos : Nat) (q0_aside : Nat) (q0_acts : Nat) (q0_ring : Nat) (q0_bestRing : Nat) (q0_nets : Nat) (q0_worked : Nat) (q0_then : Nat) (q0_plan : Nat) (q0_bestPlan : Nat) (q0_tried : Nat) (q0_tracks : Nat) (q0_kept : Nat) (q0_isKept : Nat) (q0_keptCame : Nat) (i_houses : Int32) (i_weatherMany : Int32) (i_typed : Int32) (i_rowMany : Int32) (i_thrown : Int32) (x_read : Value) (i_length : Int32) (i_top : Int32) (i_at : Int32) (i_wrong : Int32) (i_ruleSize : Int32) (i_isAsked : Int32) (i_askedInches : Int32) (i_askedPath : Int32) (i_askedDay : Int32) (i_askedRoof : Int32) (i_askedBelow : Int32) (i_askedLoose : Int32) (i_slidesMany : Int32) (i_owedNow : Int32) (i_slidInto : Int32) (i_undoMany : Int32) (i_bestLength : Int32) (i_setOff : Int32) (i_letLie : Int32) (i_trackMany : Int32) (i_came : Int32) : va_W := [(q0, .inr (12, [.ref q0_now, .int i_houses, .ref q0_hold, .ref q0_below, .ref q0_hay, .ref q0_weather, .int i_weatherMany, .ref q0_text, .int i_typed, .ref q0_row, .int i_rowMany, .int i_thrown, x_read, .int i_length, .int i_top, .int i_at, .int i_wrong, .ref q0_comes, .ref q0_rule, .int i_ruleSize, .int i_isAsked, .int i_askedInches, .int i_askedPath, .int i_askedDay, .int i_askedRoof, .int i_askedBelow, .int i_askedLoose, .int i_slidesMany, .int i_owedNow, .ref q0_owedBy, .int i_slidInto, .ref q0_undos, .int i_undoMany, .ref q0_aside, .ref q0_acts, .ref q0_ring, .ref q0_bestRing, .int i_bestLength, .ref q0_nets, .ref q0_worked, .ref q0_then, .ref q0_plan, .ref q0_bestPlan, .ref q0_tried, .int i_setOff, .int i_letLie, .ref q0_tracks, .int i_trackMany, .int i_came, .ref q0_kept, .ref q0_isKept, .ref q0_keptCame]))]
set_option maxHeartbeats 4000000 in
set_option maxRecDepth 20000 in
theorem kX12_end (l : Launch) (E : ENV) (q0 : Nat) (q0_now : Nat) (q0_hold : Nat) (q0_below : Nat) (q0_hay : Nat) (q0_weather : Nat) (q0_text : Nat) (q0_row : Nat) (q0_comes : Nat) (q0_rule : Nat) (q0_owedBy : Nat) (q0_undos : Nat) (q0_aside : Nat) (q0_acts : Nat) (q0_ring : Nat) (q0_bestRing : Nat) (q0_nets : Nat) (q0_worked : Nat) (q0_then : Nat) (q0_plan : Nat) (q0_bestPlan : Nat) (q0_tried : Nat) (q0_tracks : Nat) (q0_kept : Nat) (q0_isKept : Nat) (q0_keptCame : Nat) (i_houses : Int32) (i_weatherMany : Int32) (i_typed : Int32) (i_rowMany : Int32) (i_thrown : Int32) (x_read : Value) (i_length : Int32) (i_top : Int32) (i_at : Int32) (i_wrong : Int32) (i_ruleSize : Int32) (i_isAsked : Int32) (i_askedInches : Int32) (i_askedPath : Int32) (i_askedDay : Int32) (i_askedRoof : Int32) (i_askedBelow : Int32) (i_askedLoose : Int32) (i_slidesMany : Int32) (i_owedNow : Int32) (i_slidInto : Int32) (i_undoMany : Int32) (i_bestLength : Int32) (i_setOff : Int32) (i_letLie : Int32) (i_trackMany : Int32) (i_came : Int32) (p1 : Int32) (r9 : Int32) (i_typed9 : Int32) (i_thrown9 : Int32) (hf : fX12_end i_typed i_thrown p1 = some (r9, i_typed9, i_thrown9)) : CI l E yX12_end cX12_end 2 (some .boolean) 1 [.ref q0, .int p1] (WX12_end E q0 q0_now q0_hold q0_below q0_hay q0_weather q0_text q0_row q0_comes q0_rule q0_owedBy q0_undos q0_aside q0_acts q0_ring q0_bestRing q0_nets q0_worked q0_then q0_plan q0_bestPlan q0_tried q0_tracks q0_kept q0_isKept q0_keptCame i_houses i_weatherMany i_typed i_rowMany i_thrown x_read i_length i_top i_at i_wrong i_ruleSize i_isAsked i_askedInches i_askedPath i_askedDay i_askedRoof i_askedBelow i_askedLoose i_slidesMany i_owedNow i_slidInto i_undoMany i_bestLength i_setOff i_letLie i_trackMany i_came) (WX12_end E q0 q0_now q0_hold q0_below q0_hay q0_weather q0_text q0_row q0_comes q0_rule q0_owedBy q0_undos q0_aside q0_acts q0_ring q0_bestRing q0_nets q0_worked q0_then q0_plan q0_bestPlan q0_tried q0_tracks q0_kept q0_isKept q0_keptCame i_houses i_weatherMany i_typed9 i_rowMany i_thrown9 x_read i_length i_top i_at i_wrong i_ruleSize i_isAsked i_askedInches i_askedPath i_askedDay i_askedRoof i_askedBelow i_askedLoose i_slidesMany i_owedNow i_slidInto i_undoMany i_bestLength i_setOff i_letLie i_trackMany i_came) r9 := by
  refine begI (by decide +kernel) (Nat.le_of_ble_eq_true rfl) ?_
  intro p e s m args below meth c A Q C hA hret
  have hx := C.1
  have hb := C.2.1
  intro H locs ls hl hP hD hS
  have hl : lv_has ls 2 [(0, .ref q0), (1, .int p1)] := hl
  unfold fX12_end at hf
  refine lv_aload_n hx hb dX12_end_0 rfl (lv_at hl 0 rfl) ?_
  refine lv_iconst (v := 0) hx hb dX12_end_1 (by decide) ?_
  refine pf_RX12_87 C hP hD hS 0 rfl (Nat.le_of_ble_eq_true rfl) dX12_end_2 (fun H locs hP hD hS => ?_)
  have hP : va_P E.1 classes (WX12_end E q0 q0_now q0_hold q0_below q0_hay q0_weather q0_text q0_row q0_comes q0_rule q0_owedBy q0_undos q0_aside q0_acts q0_ring q0_bestRing q0_nets q0_worked q0_then q0_plan q0_bestPlan q0_tried q0_tracks q0_kept q0_isKept q0_keptCame i_houses i_weatherMany i_typed i_rowMany 0 x_read i_length i_top i_at i_wrong i_ruleSize i_isAsked i_askedInches i_askedPath i_askedDay i_askedRoof i_askedBelow i_askedLoose i_slidesMany i_owedNow i_slidInto i_undoMany i_bestLength i_setOff i_letLie i_trackMany i_came) H := hP
  have hD : va_D A (WX12_end E q0 q0_now q0_hold q0_below q0_hay q0_weather q0_text q0_row q0_comes q0_rule q0_owedBy q0_undos q0_aside q0_acts q0_ring q0_bestRing q0_nets q0_worked q0_then q0_plan q0_bestPlan q0_tried q0_tracks q0_kept q0_isKept q0_keptCame i_houses i_weatherMany i_typed i_rowMany 0 x_read i_length i_top i_at i_wrong i_ruleSize i_isAsked i_askedInches i_askedPath i_askedDay i_askedRoof i_askedBelow i_askedLoose i_slidesMany i_owedNow i_slidInto i_undoMany i_bestLength i_setOff i_letLie i_trackMany i_came) := hD
  refine lv_iload_n hx hb dX12_end_5 rfl (lv_at hl 1 rfl) ?_
  refine lv_iconst (v := 0) hx hb dX12_end_6 (by decide) ?_
  refine lv_aload_n hx hb dX12_end_7 rfl (lv_at hl 0 rfl) ?_
  refine gf_RX12_105 C hP 0 rfl rfl dX12_end_8 ?_
  obtain ⟨o1, hg2, hf⟩ := bd_some hf
  refine k_SI (As := [.int p1, .int 0, .int i_typed]) C K_RX12_97 (Nat.le_of_ble_eq_true rfl) (Nat.le_of_ble_eq_true rfl) (kX12_in l E p1 0 i_typed o1 hg2) [] rfl rfl rfl  hP hD hS hA hl.1 (Nat.le_of_ble_eq_true rfl) rfl dX12_end_11 (fun H locs hP hD hS => ?_)
  have hP : va_P E.1 classes (WX12_end E q0 q0_now q0_hold q0_below q0_hay q0_weather q0_text q0_row q0_comes q0_rule q0_owedBy q0_undos q0_aside q0_acts q0_ring q0_bestRing q0_nets q0_worked q0_then q0_plan q0_bestPlan q0_tried q0_tracks q0_kept q0_isKept q0_keptCame i_houses i_weatherMany i_typed i_rowMany 0 x_read i_length i_top i_at i_wrong i_ruleSize i_isAsked i_askedInches i_askedPath i_askedDay i_askedRoof i_askedBelow i_askedLoose i_slidesMany i_owedNow i_slidInto i_undoMany i_bestLength i_setOff i_letLie i_trackMany i_came) H := hP
  have hD : va_D A (WX12_end E q0 q0_now q0_hold q0_below q0_hay q0_weather q0_text q0_row q0_comes q0_rule q0_owedBy q0_undos q0_aside q0_acts q0_ring q0_bestRing q0_nets q0_worked q0_then q0_plan q0_bestPlan q0_tried q0_tracks q0_kept q0_isKept q0_keptCame i_houses i_weatherMany i_typed i_rowMany 0 x_read i_length i_top i_at i_wrong i_ruleSize i_isAsked i_askedInches i_askedPath i_askedDay i_askedRoof i_askedBelow i_askedLoose i_slidesMany i_owedNow i_slidInto i_undoMany i_bestLength i_setOff i_letLie i_trackMany i_came) := hD
  refine lv_if_ne (tgt := 19) hx hb dX12_end_14 (by decide) (fun c3 => ?_) (fun c3 => ?_)
  · rw [if_neg c3] at hf
    refine lv_aload_n hx hb dX12_end_19 rfl (lv_at hl 0 rfl) ?_
    refine lv_iload_n hx hb dX12_end_20 rfl (lv_at hl 1 rfl) ?_
    refine pf_RX12_105 C hP hD hS 0 rfl (Nat.le_of_ble_eq_true rfl) dX12_end_21 (fun H locs hP hD hS => ?_)
    have hP : va_P E.1 classes (WX12_end E q0 q0_now q0_hold q0_below q0_hay q0_weather q0_text q0_row q0_comes q0_rule q0_owedBy q0_undos q0_aside q0_acts q0_ring q0_bestRing q0_nets q0_worked q0_then q0_plan q0_bestPlan q0_tried q0_tracks q0_kept q0_isKept q0_keptCame i_houses i_weatherMany p1 i_rowMany 0 x_read i_length i_top i_at i_wrong i_ruleSize i_isAsked i_askedInches i_askedPath i_askedDay i_askedRoof i_askedBelow i_askedLoose i_slidesMany i_owedNow i_slidInto i_undoMany i_bestLength i_setOff i_letLie i_trackMany i_came) H := hP
    have hD : va_D A (WX12_end E q0 q0_now q0_hold q0_below q0_hay q0_weather q0_text q0_row q0_comes q0_rule q0_owedBy q0_undos q0_aside q0_acts q0_ring q0_bestRing q0_nets q0_worked q0_then q0_plan q0_bestPlan q0_tried q0_tracks q0_kept q0_isKept q0_keptCame i_houses i_weatherMany p1 i_rowMany 0 x_read i_length i_top i_at i_wrong i_ruleSize i_isAsked i_askedInches i_askedPath i_askedDay i_askedRoof i_askedBelow i_askedLoose i_slidesMany i_owedNow i_slidInto i_undoMany i_bestLength i_setOff i_letLie i_trackMany i_came) := hD
    refine lv_iconst (v := 1) hx hb dX12_end_24 (by decide) ?_
    have hj0 := Option.some.inj hf
    obtain ⟨ha0, hj1⟩ := Prod.mk.inj hj0
    obtain ⟨ha1, hj2⟩ := Prod.mk.inj hj1
    subst ha0
    subst ha1
    subst hj2
    exact hret _ _ _ _ dX12_end_25 rfl hP hD hS
  · rw [if_pos c3] at hf
    refine lv_iconst (v := 0) hx hb dX12_end_17 (by decide) ?_
    have hj0 := Option.some.inj hf
    obtain ⟨ha0, hj1⟩ := Prod.mk.inj hj0
    obtain ⟨ha1, hj2⟩ := Prod.mk.inj hj1
    subst ha0
    subst ha1
    subst hj2
    exact hret _ _ _ _ dX12_end_18 rfl hP hD hS
theorem q1338 : Cond.fieldLink RX12 108 "SnowForSummerModel" "read" "[B" ∈ Tg := Tg_mem 1338 (by decide +kernel) (by decide +kernel)
theorem pf_RX12_108 {p : Program} {l : Launch} {e : Env} {R : Room} {s : State} {m : MethodId} {args : Array Value} {below : List Frame} {meth : Method} {c : Code} {H : Heap} {locs : List Loc} {cells slots : Nat} {Q : State → Prop} {E : ENV} {cc : ByteArray} {n : Nat} {r : Option FieldType} {pc : Nat} {ls : Array Slot} {rest : List Value} {a : Nat} {ws : va_W} {nm ds : String} {fs : List Value} {A : Nat → Prop} {H0 : Heap} {x : Nat} (C : Cx E A ⟨RX12, nm, ds⟩ cc n r p s m args meth c) (hP : va_P E.1 classes ws H) (hD : va_D A ws) (hS : va_S A H0 H locs) (q0 : Nat) (he : ws[q0]? = some (a, .inr (12, fs))) (hl : 12 < fs.length) (hdg : decode cc pc = .ok (.putfield 108, 3))
    (kk : ∀ (H1 : Heap) (locs1 : List Loc), va_P E.1 classes (ws.set q0 (a, .inr (12, fs.set 12 (.ref x)))) H1 → va_D A (ws.set q0 (a, .inr (12, fs.set 12 (.ref x)))) → va_S A H0 H1 locs1 → W p l e R s m args below meth c H1 locs1 cells slots Q (F0 m (pc + 3) ls rest)) : W p l e R s m args below meth c H locs cells slots Q (F0 m pc ls (.ref x :: .ref a :: rest)) :=
  va_put (C := RX12) (T := TX12) (N := 52) (ty := (.array .byte)) (Ts := wl ⟨RX12, nm, ds⟩ cc n r) C.1 C.2.1 C.2.2.2.2.1 (fun w h => List.mem_cons_of_mem _ (inT12 w h)) tyX12 tyX12_ok nmX12 C.2.2.2.1 C.2.2.2.2.2.1 hP hD hS q0 he rfl 12 (by decide) (C.2.2.2.2.1 _ (List.mem_cons_of_mem _ q1338)) (fun _ h9 => h9) rfl (by decide +kernel) rfl rfl hl hdg kk
theorem q1339 : Cond.fieldLink RX12 111 "SnowForSummerModel" "length" "I" ∈ Tg := Tg_mem 1339 (by decide +kernel) (by decide +kernel)
theorem pf_RX12_111 {p : Program} {l : Launch} {e : Env} {R : Room} {s : State} {m : MethodId} {args : Array Value} {below : List Frame} {meth : Method} {c : Code} {H : Heap} {locs : List Loc} {cells slots : Nat} {Q : State → Prop} {E : ENV} {cc : ByteArray} {n : Nat} {r : Option FieldType} {pc : Nat} {ls : Array Slot} {rest : List Value} {a : Nat} {ws : va_W} {nm ds : String} {fs : List Value} {A : Nat → Prop} {H0 : Heap} {x : Int32} (C : Cx E A ⟨RX12, nm, ds⟩ cc n r p s m args meth c) (hP : va_P E.1 classes ws H) (hD : va_D A ws) (hS : va_S A H0 H locs) (q0 : Nat) (he : ws[q0]? = some (a, .inr (12, fs))) (hl : 13 < fs.length) (hdg : decode cc pc = .ok (.putfield 111, 3))
    (kk : ∀ (H1 : Heap) (locs1 : List Loc), va_P E.1 classes (ws.set q0 (a, .inr (12, fs.set 13 (.int x)))) H1 → va_D A (ws.set q0 (a, .inr (12, fs.set 13 (.int x)))) → va_S A H0 H1 locs1 → W p l e R s m args below meth c H1 locs1 cells slots Q (F0 m (pc + 3) ls rest)) : W p l e R s m args below meth c H locs cells slots Q (F0 m pc ls (.int x :: .ref a :: rest)) :=
  va_put (C := RX12) (T := TX12) (N := 52) (ty := .int) (Ts := wl ⟨RX12, nm, ds⟩ cc n r) C.1 C.2.1 C.2.2.2.2.1 (fun w h => List.mem_cons_of_mem _ (inT12 w h)) tyX12 tyX12_ok nmX12 C.2.2.2.1 C.2.2.2.2.2.1 hP hD hS q0 he rfl 13 (by decide) (C.2.2.2.2.1 _ (List.mem_cons_of_mem _ q1339)) (fun _ h9 => h9) rfl (by decide +kernel) rfl rfl hl hdg kk
theorem q1340 : Cond.fieldLink RX12 114 "SnowForSummerModel" "top" "I" ∈ Tg := Tg_mem 1340 (by decide +kernel) (by decide +kernel)
theorem pf_RX12_114 {p : Program} {l : Launch} {e : Env} {R : Room} {s : State} {m : MethodId} {args : Array Value} {below : List Frame} {meth : Method} {c : Code} {H : Heap} {locs : List Loc} {cells slots : Nat} {Q : State → Prop} {E : ENV} {cc : ByteArray} {n : Nat} {r : Option FieldType} {pc : Nat} {ls : Array Slot} {rest : List Value} {a : Nat} {ws : va_W} {nm ds : String} {fs : List Value} {A : Nat → Prop} {H0 : Heap} {x : Int32} (C : Cx E A ⟨RX12, nm, ds⟩ cc n r p s m args meth c) (hP : va_P E.1 classes ws H) (hD : va_D A ws) (hS : va_S A H0 H locs) (q0 : Nat) (he : ws[q0]? = some (a, .inr (12, fs))) (hl : 14 < fs.length) (hdg : decode cc pc = .ok (.putfield 114, 3))
    (kk : ∀ (H1 : Heap) (locs1 : List Loc), va_P E.1 classes (ws.set q0 (a, .inr (12, fs.set 14 (.int x)))) H1 → va_D A (ws.set q0 (a, .inr (12, fs.set 14 (.int x)))) → va_S A H0 H1 locs1 → W p l e R s m args below meth c H1 locs1 cells slots Q (F0 m (pc + 3) ls rest)) : W p l e R s m args below meth c H locs cells slots Q (F0 m pc ls (.int x :: .ref a :: rest)) :=
  va_put (C := RX12) (T := TX12) (N := 52) (ty := .int) (Ts := wl ⟨RX12, nm, ds⟩ cc n r) C.1 C.2.1 C.2.2.2.2.1 (fun w h => List.mem_cons_of_mem _ (inT12 w h)) tyX12 tyX12_ok nmX12 C.2.2.2.1 C.2.2.2.2.2.1 hP hD hS q0 he rfl 14 (by decide) (C.2.2.2.2.1 _ (List.mem_cons_of_mem _ q1340)) (fun _ h9 => h9) rfl (by decide +kernel) rfl rfl hl hdg kk
theorem q1341 : Cond.fieldLink RX12 117 "SnowForSummerModel" "at" "I" ∈ Tg := Tg_mem 1341 (by decide +kernel) (by decide +kernel)
theorem pf_RX12_117 {p : Program} {l : Launch} {e : Env} {R : Room} {s : State} {m : MethodId} {args : Array Value} {below : List Frame} {meth : Method} {c : Code} {H : Heap} {locs : List Loc} {cells slots : Nat} {Q : State → Prop} {E : ENV} {cc : ByteArray} {n : Nat} {r : Option FieldType} {pc : Nat} {ls : Array Slot} {rest : List Value} {a : Nat} {ws : va_W} {nm ds : String} {fs : List Value} {A : Nat → Prop} {H0 : Heap} {x : Int32} (C : Cx E A ⟨RX12, nm, ds⟩ cc n r p s m args meth c) (hP : va_P E.1 classes ws H) (hD : va_D A ws) (hS : va_S A H0 H locs) (q0 : Nat) (he : ws[q0]? = some (a, .inr (12, fs))) (hl : 15 < fs.length) (hdg : decode cc pc = .ok (.putfield 117, 3))
    (kk : ∀ (H1 : Heap) (locs1 : List Loc), va_P E.1 classes (ws.set q0 (a, .inr (12, fs.set 15 (.int x)))) H1 → va_D A (ws.set q0 (a, .inr (12, fs.set 15 (.int x)))) → va_S A H0 H1 locs1 → W p l e R s m args below meth c H1 locs1 cells slots Q (F0 m (pc + 3) ls rest)) : W p l e R s m args below meth c H locs cells slots Q (F0 m pc ls (.int x :: .ref a :: rest)) :=
  va_put (C := RX12) (T := TX12) (N := 52) (ty := .int) (Ts := wl ⟨RX12, nm, ds⟩ cc n r) C.1 C.2.1 C.2.2.2.2.1 (fun w h => List.mem_cons_of_mem _ (inT12 w h)) tyX12 tyX12_ok nmX12 C.2.2.2.1 C.2.2.2.2.2.1 hP hD hS q0 he rfl 15 (by decide) (C.2.2.2.2.1 _ (List.mem_cons_of_mem _ q1341)) (fun _ h9 => h9) rfl (by decide +kernel) rfl rfl hl hdg kk
theorem q1342 : Cond.fieldLink RX12 120 "SnowForSummerModel" "wrong" "I" ∈ Tg := Tg_mem 1342 (by decide +kernel) (by decide +kernel)
theorem pf_RX12_120 {p : Program} {l : Launch} {e : Env} {R : Room} {s : State} {m : MethodId} {args : Array Value} {below : List Frame} {meth : Method} {c : Code} {H : Heap} {locs : List Loc} {cells slots : Nat} {Q : State → Prop} {E : ENV} {cc : ByteArray} {n : Nat} {r : Option FieldType} {pc : Nat} {ls : Array Slot} {rest : List Value} {a : Nat} {ws : va_W} {nm ds : String} {fs : List Value} {A : Nat → Prop} {H0 : Heap} {x : Int32} (C : Cx E A ⟨RX12, nm, ds⟩ cc n r p s m args meth c) (hP : va_P E.1 classes ws H) (hD : va_D A ws) (hS : va_S A H0 H locs) (q0 : Nat) (he : ws[q0]? = some (a, .inr (12, fs))) (hl : 16 < fs.length) (hdg : decode cc pc = .ok (.putfield 120, 3))
    (kk : ∀ (H1 : Heap) (locs1 : List Loc), va_P E.1 classes (ws.set q0 (a, .inr (12, fs.set 16 (.int x)))) H1 → va_D A (ws.set q0 (a, .inr (12, fs.set 16 (.int x)))) → va_S A H0 H1 locs1 → W p l e R s m args below meth c H1 locs1 cells slots Q (F0 m (pc + 3) ls rest)) : W p l e R s m args below meth c H locs cells slots Q (F0 m pc ls (.int x :: .ref a :: rest)) :=
  va_put (C := RX12) (T := TX12) (N := 52) (ty := .int) (Ts := wl ⟨RX12, nm, ds⟩ cc n r) C.1 C.2.1 C.2.2.2.2.1 (fun w h => List.mem_cons_of_mem _ (inT12 w h)) tyX12 tyX12_ok nmX12 C.2.2.2.1 C.2.2.2.2.2.1 hP hD hS q0 he rfl 16 (by decide) (C.2.2.2.2.1 _ (List.mem_cons_of_mem _ q1342)) (fun _ h9 => h9) rfl (by decide +kernel) rfl rfl hl hdg kk
theorem dX12_begin_0 : decode cX12_begin 0 = .ok (.aload_n 0, 1) := by decide +kernel
theorem dX12_begin_1 : decode cX12_begin 1 = .ok (.aload_n 1, 1) := by decide +kernel
theorem dX12_begin_2 : decode cX12_begin 2 = .ok (.putfield 108, 3) := by decide +kernel
theorem dX12_begin_5 : decode cX12_begin 5 = .ok (.aload_n 0, 1) := by decide +kernel
theorem dX12_begin_6 : decode cX12_begin 6 = .ok (.iload_n 2, 1) := by decide +kernel
theorem dX12_begin_7 : decode cX12_begin 7 = .ok (.putfield 111, 3) := by decide +kernel
theorem dX12_begin_10 : decode cX12_begin 10 = .ok (.aload_n 0, 1) := by decide +kernel
theorem dX12_begin_11 : decode cX12_begin 11 = .ok (.iload_n 3, 1) := by decide +kernel
theorem dX12_begin_12 : decode cX12_begin 12 = .ok (.putfield 114, 3) := by decide +kernel
theorem dX12_begin_15 : decode cX12_begin 15 = .ok (.aload_n 0, 1) := by decide +kernel
theorem dX12_begin_16 : decode cX12_begin 16 = .ok (.iconst 0, 1) := by decide +kernel
theorem dX12_begin_17 : decode cX12_begin 17 = .ok (.putfield 117, 3) := by decide +kernel
theorem dX12_begin_20 : decode cX12_begin 20 = .ok (.aload_n 0, 1) := by decide +kernel
theorem dX12_begin_21 : decode cX12_begin 21 = .ok (.iconst (-1), 1) := by decide +kernel
theorem dX12_begin_22 : decode cX12_begin 22 = .ok (.putfield 120, 3) := by decide +kernel
theorem dX12_begin_25 : decode cX12_begin 25 = .ok (.return_, 1) := by decide +kernel
def WX12_begin (E : ENV) (q0 : Nat) (q0_now : Nat) (q0_hold : Nat) (q0_below : Nat) (q0_hay : Nat) (q0_weather : Nat) (q0_text : Nat) (q0_row : Nat) (q0_comes : Nat) (q0_rule : Nat) (q0_owedBy : Nat) (q0_undos : Nat) (q0_aside : Nat) (q0_acts : Nat) (q0_ring : Nat) (q0_bestRing : Nat) (q0_nets : Nat) (q0_worked : Nat) (q0_then : Nat) (q0_plan : Nat) (q0_bestPlan : Nat) (q0_tried : Nat) (q0_tracks : Nat) (q0_kept : Nat) (q0_isKept : Nat) (q0_keptCame : Nat) (q1 : Nat) (i_houses : Int32) (i_weatherMany : Int32) (i_typed : Int32) (i_rowMany : Int32) (i_thrown : Int32) (x_read : Value) (i_length : Int32) (i_top : Int32) (i_at : Int32) (i_wrong : Int32) (i_ruleSize : Int32) (i_isAsked : Int32) (i_askedInches : Int32) (i_askedPath : Int32) (i_askedDay : Int32) (i_askedRoof : Int32) (i_askedBelow : Int32) (i_askedLoose : Int32) (i_slidesMany : Int32) (i_owedNow : Int32) (i_slidInto : Int32) (i_undoMany : Int32) (i_bestLength : Int32) (i_setOff : Int32) (i_letLie : Int32) (i_trackMany : Int32) (i_came : Int32) : va_W := [(q0, .inr (12, [.ref q0_now, .int i_houses, .ref q0_hold, .ref q0_below, .ref q0_hay, .ref q0_weather, .int i_weatherMany, .ref q0_text, .int i_typed, .ref q0_row, .int i_rowMany, .int i_thrown, x_read, .int i_length, .int i_top, .int i_at, .int i_wrong, .ref q0_comes, .ref q0_rule, .int i_ruleSize, .int i_isAsked, .int i_askedInches, .int i_askedPath, .int i_askedDay, .int i_askedRoof, .int i_askedBelow, .int i_askedLoose, .int i_slidesMany, .int i_owedNow, .ref q0_owedBy, .int i_slidInto, .ref q0_undos, .int i_undoMany, .ref q0_aside, .ref q0_acts, .ref q0_ring, .ref q0_bestRing, .int i_bestLength, .ref q0_nets, .ref q0_worked, .ref q0_then, .ref q0_plan, .ref q0_bestPlan, .ref q0_tried, .int i_setOff, .int i_letLie, .ref q0_tracks, .int i_trackMany, .int i_came, .ref q0_kept, .ref q0_isKept, .ref q0_keptCame]))]
set_option maxHeartbeats 4000000 in
set_option maxRecDepth 20000 in
theorem kX12_begin (l : Launch) (E : ENV) (q0 : Nat) (q0_now : Nat) (q0_hold : Nat) (q0_below : Nat) (q0_hay : Nat) (q0_weather : Nat) (q0_text : Nat) (q0_row : Nat) (q0_comes : Nat) (q0_rule : Nat) (q0_owedBy : Nat) (q0_undos : Nat) (q0_aside : Nat) (q0_acts : Nat) (q0_ring : Nat) (q0_bestRing : Nat) (q0_nets : Nat) (q0_worked : Nat) (q0_then : Nat) (q0_plan : Nat) (q0_bestPlan : Nat) (q0_tried : Nat) (q0_tracks : Nat) (q0_kept : Nat) (q0_isKept : Nat) (q0_keptCame : Nat) (q1 : Nat) (i_houses : Int32) (i_weatherMany : Int32) (i_typed : Int32) (i_rowMany : Int32) (i_thrown : Int32) (x_read : Value) (i_length : Int32) (i_top : Int32) (i_at : Int32) (i_wrong : Int32) (i_ruleSize : Int32) (i_isAsked : Int32) (i_askedInches : Int32) (i_askedPath : Int32) (i_askedDay : Int32) (i_askedRoof : Int32) (i_askedBelow : Int32) (i_askedLoose : Int32) (i_slidesMany : Int32) (i_owedNow : Int32) (i_slidInto : Int32) (i_undoMany : Int32) (i_bestLength : Int32) (i_setOff : Int32) (i_letLie : Int32) (i_trackMany : Int32) (i_came : Int32) (p2 : Int32) (p3 : Int32) (i_length9 : Int32) (i_top9 : Int32) (i_at9 : Int32) (i_wrong9 : Int32) (hf : fX12_begin i_length i_top i_at i_wrong p2 p3 = some (i_length9, i_top9, i_at9, i_wrong9)) : CV l E yX12_begin cX12_begin 4 0 [.ref q0, .ref q1, .int p2, .int p3] (WX12_begin E q0 q0_now q0_hold q0_below q0_hay q0_weather q0_text q0_row q0_comes q0_rule q0_owedBy q0_undos q0_aside q0_acts q0_ring q0_bestRing q0_nets q0_worked q0_then q0_plan q0_bestPlan q0_tried q0_tracks q0_kept q0_isKept q0_keptCame q1 i_houses i_weatherMany i_typed i_rowMany i_thrown x_read i_length i_top i_at i_wrong i_ruleSize i_isAsked i_askedInches i_askedPath i_askedDay i_askedRoof i_askedBelow i_askedLoose i_slidesMany i_owedNow i_slidInto i_undoMany i_bestLength i_setOff i_letLie i_trackMany i_came) (WX12_begin E q0 q0_now q0_hold q0_below q0_hay q0_weather q0_text q0_row q0_comes q0_rule q0_owedBy q0_undos q0_aside q0_acts q0_ring q0_bestRing q0_nets q0_worked q0_then q0_plan q0_bestPlan q0_tried q0_tracks q0_kept q0_isKept q0_keptCame q1 i_houses i_weatherMany i_typed i_rowMany i_thrown ((.ref q1)) i_length9 i_top9 i_at9 i_wrong9 i_ruleSize i_isAsked i_askedInches i_askedPath i_askedDay i_askedRoof i_askedBelow i_askedLoose i_slidesMany i_owedNow i_slidInto i_undoMany i_bestLength i_setOff i_letLie i_trackMany i_came) := by
  refine begV (by decide +kernel) (Nat.le_of_ble_eq_true rfl) ?_
  intro p e s m args below meth c A Q C hA hret
  have hx := C.1
  have hb := C.2.1
  intro H locs ls hl hP hD hS
  have hl : lv_has ls 4 [(0, .ref q0), (1, .ref q1), (2, .int p2), (3, .int p3)] := hl
  unfold fX12_begin at hf
  refine lv_aload_n hx hb dX12_begin_0 rfl (lv_at hl 0 rfl) ?_
  refine lv_aload_n hx hb dX12_begin_1 rfl (lv_at hl 1 rfl) ?_
  refine pf_RX12_108 C hP hD hS 0 rfl (Nat.le_of_ble_eq_true rfl) dX12_begin_2 (fun H locs hP hD hS => ?_)
  have hP : va_P E.1 classes (WX12_begin E q0 q0_now q0_hold q0_below q0_hay q0_weather q0_text q0_row q0_comes q0_rule q0_owedBy q0_undos q0_aside q0_acts q0_ring q0_bestRing q0_nets q0_worked q0_then q0_plan q0_bestPlan q0_tried q0_tracks q0_kept q0_isKept q0_keptCame q1 i_houses i_weatherMany i_typed i_rowMany i_thrown ((.ref q1)) i_length i_top i_at i_wrong i_ruleSize i_isAsked i_askedInches i_askedPath i_askedDay i_askedRoof i_askedBelow i_askedLoose i_slidesMany i_owedNow i_slidInto i_undoMany i_bestLength i_setOff i_letLie i_trackMany i_came) H := hP
  have hD : va_D A (WX12_begin E q0 q0_now q0_hold q0_below q0_hay q0_weather q0_text q0_row q0_comes q0_rule q0_owedBy q0_undos q0_aside q0_acts q0_ring q0_bestRing q0_nets q0_worked q0_then q0_plan q0_bestPlan q0_tried q0_tracks q0_kept q0_isKept q0_keptCame q1 i_houses i_weatherMany i_typed i_rowMany i_thrown ((.ref q1)) i_length i_top i_at i_wrong i_ruleSize i_isAsked i_askedInches i_askedPath i_askedDay i_askedRoof i_askedBelow i_askedLoose i_slidesMany i_owedNow i_slidInto i_undoMany i_bestLength i_setOff i_letLie i_trackMany i_came) := hD
  refine lv_aload_n hx hb dX12_begin_5 rfl (lv_at hl 0 rfl) ?_
  refine lv_iload_n hx hb dX12_begin_6 rfl (lv_at hl 2 rfl) ?_
  refine pf_RX12_111 C hP hD hS 0 rfl (Nat.le_of_ble_eq_true rfl) dX12_begin_7 (fun H locs hP hD hS => ?_)
  have hP : va_P E.1 classes (WX12_begin E q0 q0_now q0_hold q0_below q0_hay q0_weather q0_text q0_row q0_comes q0_rule q0_owedBy q0_undos q0_aside q0_acts q0_ring q0_bestRing q0_nets q0_worked q0_then q0_plan q0_bestPlan q0_tried q0_tracks q0_kept q0_isKept q0_keptCame q1 i_houses i_weatherMany i_typed i_rowMany i_thrown ((.ref q1)) p2 i_top i_at i_wrong i_ruleSize i_isAsked i_askedInches i_askedPath i_askedDay i_askedRoof i_askedBelow i_askedLoose i_slidesMany i_owedNow i_slidInto i_undoMany i_bestLength i_setOff i_letLie i_trackMany i_came) H := hP
  have hD : va_D A (WX12_begin E q0 q0_now q0_hold q0_below q0_hay q0_weather q0_text q0_row q0_comes q0_rule q0_owedBy q0_undos q0_aside q0_acts q0_ring q0_bestRing q0_nets q0_worked q0_then q0_plan q0_bestPlan q0_tried q0_tracks q0_kept q0_isKept q0_keptCame q1 i_houses i_weatherMany i_typed i_rowMany i_thrown ((.ref q1)) p2 i_top i_at i_wrong i_ruleSize i_isAsked i_askedInches i_askedPath i_askedDay i_askedRoof i_askedBelow i_askedLoose i_slidesMany i_owedNow i_slidInto i_undoMany i_bestLength i_setOff i_letLie i_trackMany i_came) := hD
  refine lv_aload_n hx hb dX12_begin_10 rfl (lv_at hl 0 rfl) ?_
  refine lv_iload_n hx hb dX12_begin_11 rfl (lv_at hl 3 rfl) ?_
  refine pf_RX12_114 C hP hD hS 0 rfl (Nat.le_of_ble_eq_true rfl) dX12_begin_12 (fun H locs hP hD hS => ?_)
  have hP : va_P E.1 classes (WX12_begin E q0 q0_now q0_hold q0_below q0_hay q0_weather q0_text q0_row q0_comes q0_rule q0_owedBy q0_undos q0_aside q0_acts q0_ring q0_bestRing q0_nets q0_worked q0_then q0_plan q0_bestPlan q0_tried q0_tracks q0_kept q0_isKept q0_keptCame q1 i_houses i_weatherMany i_typed i_rowMany i_thrown ((.ref q1)) p2 p3 i_at i_wrong i_ruleSize i_isAsked i_askedInches i_askedPath i_askedDay i_askedRoof i_askedBelow i_askedLoose i_slidesMany i_owedNow i_slidInto i_undoMany i_bestLength i_setOff i_letLie i_trackMany i_came) H := hP
  have hD : va_D A (WX12_begin E q0 q0_now q0_hold q0_below q0_hay q0_weather q0_text q0_row q0_comes q0_rule q0_owedBy q0_undos q0_aside q0_acts q0_ring q0_bestRing q0_nets q0_worked q0_then q0_plan q0_bestPlan q0_tried q0_tracks q0_kept q0_isKept q0_keptCame q1 i_houses i_weatherMany i_typed i_rowMany i_thrown ((.ref q1)) p2 p3 i_at i_wrong i_ruleSize i_isAsked i_askedInches i_askedPath i_askedDay i_askedRoof i_askedBelow i_askedLoose i_slidesMany i_owedNow i_slidInto i_undoMany i_bestLength i_setOff i_letLie i_trackMany i_came) := hD
  refine lv_aload_n hx hb dX12_begin_15 rfl (lv_at hl 0 rfl) ?_
  refine lv_iconst (v := 0) hx hb dX12_begin_16 (by decide) ?_
  refine pf_RX12_117 C hP hD hS 0 rfl (Nat.le_of_ble_eq_true rfl) dX12_begin_17 (fun H locs hP hD hS => ?_)
  have hP : va_P E.1 classes (WX12_begin E q0 q0_now q0_hold q0_below q0_hay q0_weather q0_text q0_row q0_comes q0_rule q0_owedBy q0_undos q0_aside q0_acts q0_ring q0_bestRing q0_nets q0_worked q0_then q0_plan q0_bestPlan q0_tried q0_tracks q0_kept q0_isKept q0_keptCame q1 i_houses i_weatherMany i_typed i_rowMany i_thrown ((.ref q1)) p2 p3 0 i_wrong i_ruleSize i_isAsked i_askedInches i_askedPath i_askedDay i_askedRoof i_askedBelow i_askedLoose i_slidesMany i_owedNow i_slidInto i_undoMany i_bestLength i_setOff i_letLie i_trackMany i_came) H := hP
  have hD : va_D A (WX12_begin E q0 q0_now q0_hold q0_below q0_hay q0_weather q0_text q0_row q0_comes q0_rule q0_owedBy q0_undos q0_aside q0_acts q0_ring q0_bestRing q0_nets q0_worked q0_then q0_plan q0_bestPlan q0_tried q0_tracks q0_kept q0_isKept q0_keptCame q1 i_houses i_weatherMany i_typed i_rowMany i_thrown ((.ref q1)) p2 p3 0 i_wrong i_ruleSize i_isAsked i_askedInches i_askedPath i_askedDay i_askedRoof i_askedBelow i_askedLoose i_slidesMany i_owedNow i_slidInto i_undoMany i_bestLength i_setOff i_letLie i_trackMany i_came) := hD
  refine lv_aload_n hx hb dX12_begin_20 rfl (lv_at hl 0 rfl) ?_
  refine lv_iconst (v := (-1)) hx hb dX12_begin_21 (by decide) ?_
  refine pf_RX12_120 C hP hD hS 0 rfl (Nat.le_of_ble_eq_true rfl) dX12_begin_22 (fun H locs hP hD hS => ?_)
  have hP : va_P E.1 classes (WX12_begin E q0 q0_now q0_hold q0_below q0_hay q0_weather q0_text q0_row q0_comes q0_rule q0_owedBy q0_undos q0_aside q0_acts q0_ring q0_bestRing q0_nets q0_worked q0_then q0_plan q0_bestPlan q0_tried q0_tracks q0_kept q0_isKept q0_keptCame q1 i_houses i_weatherMany i_typed i_rowMany i_thrown ((.ref q1)) p2 p3 0 ((-1)) i_ruleSize i_isAsked i_askedInches i_askedPath i_askedDay i_askedRoof i_askedBelow i_askedLoose i_slidesMany i_owedNow i_slidInto i_undoMany i_bestLength i_setOff i_letLie i_trackMany i_came) H := hP
  have hD : va_D A (WX12_begin E q0 q0_now q0_hold q0_below q0_hay q0_weather q0_text q0_row q0_comes q0_rule q0_owedBy q0_undos q0_aside q0_acts q0_ring q0_bestRing q0_nets q0_worked q0_then q0_plan q0_bestPlan q0_tried q0_tracks q0_kept q0_isKept q0_keptCame q1 i_houses i_weatherMany i_typed i_rowMany i_thrown ((.ref q1)) p2 p3 0 ((-1)) i_ruleSize i_isAsked i_askedInches i_askedPath i_askedDay i_askedRoof i_askedBelow i_askedLoose i_slidesMany i_owedNow i_slidInto i_undoMany i_bestLength i_setOff i_letLie i_trackMany i_came) := hD
  have hj0 := Option.some.inj hf
  obtain ⟨ha0, hj1⟩ := Prod.mk.inj hj0
  obtain ⟨ha1, hj2⟩ := Prod.mk.inj hj1
  obtain ⟨ha2, hj3⟩ := Prod.mk.inj hj2
  subst ha0
  subst ha1
  subst ha2
  subst hj3
  exact hret _ _ _ _ dX12_begin_25 hP hD hS
theorem gf_RX12_117 {p : Program} {l : Launch} {e : Env} {R : Room} {s : State} {m : MethodId} {args : Array Value} {below : List Frame} {meth : Method} {c : Code} {H : Heap} {locs : List Loc} {cells slots : Nat} {Q : State → Prop} {E : ENV} {cc : ByteArray} {n : Nat} {r : Option FieldType} {pc : Nat} {ls : Array Slot} {rest : List Value} {a : Nat} {ws : va_W} {nm ds : String} {fs : List Value} {A : Nat → Prop} {v : Value} (C : Cx E A ⟨RX12, nm, ds⟩ cc n r p s m args meth c) (hP : va_P E.1 classes ws H) (q0 : Nat) (he : ws[q0]? = some (a, .inr (12, fs))) (hv : fs[15]? = some v) (hdg : decode cc pc = .ok (.getfield 117, 3))
    (kk : W p l e R s m args below meth c H locs cells slots Q (F0 m (pc + 3) ls (v :: rest))) : W p l e R s m args below meth c H locs cells slots Q (F0 m pc ls (.ref a :: rest)) :=
  va_get (C := RX12) (T := TX12) (N := 52) (Ts := wl ⟨RX12, nm, ds⟩ cc n r) C.1 C.2.1 C.2.2.2.2.1 (fun w h => List.mem_cons_of_mem _ (inT12 w h)) C.2.2.2.1 C.2.2.2.2.2.1 hP q0 he rfl 15 (by decide) (C.2.2.2.2.1 _ (List.mem_cons_of_mem _ q1341)) (fun _ h9 => h9) hv hdg kk
theorem gf_RX12_111 {p : Program} {l : Launch} {e : Env} {R : Room} {s : State} {m : MethodId} {args : Array Value} {below : List Frame} {meth : Method} {c : Code} {H : Heap} {locs : List Loc} {cells slots : Nat} {Q : State → Prop} {E : ENV} {cc : ByteArray} {n : Nat} {r : Option FieldType} {pc : Nat} {ls : Array Slot} {rest : List Value} {a : Nat} {ws : va_W} {nm ds : String} {fs : List Value} {A : Nat → Prop} {v : Value} (C : Cx E A ⟨RX12, nm, ds⟩ cc n r p s m args meth c) (hP : va_P E.1 classes ws H) (q0 : Nat) (he : ws[q0]? = some (a, .inr (12, fs))) (hv : fs[13]? = some v) (hdg : decode cc pc = .ok (.getfield 111, 3))
    (kk : W p l e R s m args below meth c H locs cells slots Q (F0 m (pc + 3) ls (v :: rest))) : W p l e R s m args below meth c H locs cells slots Q (F0 m pc ls (.ref a :: rest)) :=
  va_get (C := RX12) (T := TX12) (N := 52) (Ts := wl ⟨RX12, nm, ds⟩ cc n r) C.1 C.2.1 C.2.2.2.2.1 (fun w h => List.mem_cons_of_mem _ (inT12 w h)) C.2.2.2.1 C.2.2.2.2.2.1 hP q0 he rfl 13 (by decide) (C.2.2.2.2.1 _ (List.mem_cons_of_mem _ q1339)) (fun _ h9 => h9) hv hdg kk
theorem gf_RX12_114 {p : Program} {l : Launch} {e : Env} {R : Room} {s : State} {m : MethodId} {args : Array Value} {below : List Frame} {meth : Method} {c : Code} {H : Heap} {locs : List Loc} {cells slots : Nat} {Q : State → Prop} {E : ENV} {cc : ByteArray} {n : Nat} {r : Option FieldType} {pc : Nat} {ls : Array Slot} {rest : List Value} {a : Nat} {ws : va_W} {nm ds : String} {fs : List Value} {A : Nat → Prop} {v : Value} (C : Cx E A ⟨RX12, nm, ds⟩ cc n r p s m args meth c) (hP : va_P E.1 classes ws H) (q0 : Nat) (he : ws[q0]? = some (a, .inr (12, fs))) (hv : fs[14]? = some v) (hdg : decode cc pc = .ok (.getfield 114, 3))
    (kk : W p l e R s m args below meth c H locs cells slots Q (F0 m (pc + 3) ls (v :: rest))) : W p l e R s m args below meth c H locs cells slots Q (F0 m pc ls (.ref a :: rest)) :=
  va_get (C := RX12) (T := TX12) (N := 52) (Ts := wl ⟨RX12, nm, ds⟩ cc n r) C.1 C.2.1 C.2.2.2.2.1 (fun w h => List.mem_cons_of_mem _ (inT12 w h)) C.2.2.2.1 C.2.2.2.2.2.1 hP q0 he rfl 14 (by decide) (C.2.2.2.2.1 _ (List.mem_cons_of_mem _ q1340)) (fun _ h9 => h9) hv hdg kk
theorem gf_RX12_108 {p : Program} {l : Launch} {e : Env} {R : Room} {s : State} {m : MethodId} {args : Array Value} {below : List Frame} {meth : Method} {c : Code} {H : Heap} {locs : List Loc} {cells slots : Nat} {Q : State → Prop} {E : ENV} {cc : ByteArray} {n : Nat} {r : Option FieldType} {pc : Nat} {ls : Array Slot} {rest : List Value} {a : Nat} {ws : va_W} {nm ds : String} {fs : List Value} {A : Nat → Prop} {v : Value} (C : Cx E A ⟨RX12, nm, ds⟩ cc n r p s m args meth c) (hP : va_P E.1 classes ws H) (q0 : Nat) (he : ws[q0]? = some (a, .inr (12, fs))) (hv : fs[12]? = some v) (hdg : decode cc pc = .ok (.getfield 108, 3))
    (kk : W p l e R s m args below meth c H locs cells slots Q (F0 m (pc + 3) ls (v :: rest))) : W p l e R s m args below meth c H locs cells slots Q (F0 m pc ls (.ref a :: rest)) :=
  va_get (C := RX12) (T := TX12) (N := 52) (Ts := wl ⟨RX12, nm, ds⟩ cc n r) C.1 C.2.1 C.2.2.2.2.1 (fun w h => List.mem_cons_of_mem _ (inT12 w h)) C.2.2.2.1 C.2.2.2.2.2.1 hP q0 he rfl 12 (by decide) (C.2.2.2.2.1 _ (List.mem_cons_of_mem _ q1338)) (fun _ h9 => h9) hv hdg kk
theorem dX12_here_0 : decode cX12_here 0 = .ok (.aload_n 0, 1) := by decide +kernel
theorem dX12_here_1 : decode cX12_here 1 = .ok (.getfield 117, 3) := by decide +kernel
theorem dX12_here_4 : decode cX12_here 4 = .ok (.aload_n 0, 1) := by decide +kernel
theorem dX12_here_5 : decode cX12_here 5 = .ok (.getfield 111, 3) := by decide +kernel
theorem dX12_here_8 : decode cX12_here 8 = .ok (.if_icmp .ge 26, 3) := by decide +kernel
theorem dX12_here_11 : decode cX12_here 11 = .ok (.aload_n 0, 1) := by decide +kernel
theorem dX12_here_12 : decode cX12_here 12 = .ok (.getfield 117, 3) := by decide +kernel
theorem dX12_here_15 : decode cX12_here 15 = .ok (.aload_n 0, 1) := by decide +kernel
theorem dX12_here_16 : decode cX12_here 16 = .ok (.getfield 114, 3) := by decide +kernel
theorem dX12_here_19 : decode cX12_here 19 = .ok (.if_icmp .ge 15, 3) := by decide +kernel
theorem dX12_here_22 : decode cX12_here 22 = .ok (.aload_n 0, 1) := by decide +kernel
theorem dX12_here_23 : decode cX12_here 23 = .ok (.getfield 108, 3) := by decide +kernel
theorem dX12_here_26 : decode cX12_here 26 = .ok (.aload_n 0, 1) := by decide +kernel
theorem dX12_here_27 : decode cX12_here 27 = .ok (.getfield 117, 3) := by decide +kernel
theorem dX12_here_30 : decode cX12_here 30 = .ok (.baload, 1) := by decide +kernel
theorem dX12_here_31 : decode cX12_here 31 = .ok (.goto 4, 3) := by decide +kernel
theorem dX12_here_34 : decode cX12_here 34 = .ok (.iconst (-1), 1) := by decide +kernel
theorem dX12_here_35 : decode cX12_here 35 = .ok (.ireturn, 1) := by decide +kernel
def WX12_here (E : ENV) (q0 : Nat) (q0_now : Nat) (q0_hold : Nat) (q0_below : Nat) (q0_hay : Nat) (q0_weather : Nat) (q0_text : Nat) (q0_row : Nat) (q0_read : Nat) (q0_comes : Nat) (q0_rule : Nat) (q0_owedBy : Nat) (q0_undos : Nat) (q0_aside : Nat) (q0_acts : Nat) (q0_ring : Nat) (q0_bestRing : Nat) (q0_nets : Nat) (q0_worked : Nat) (q0_then : Nat) (q0_plan : Nat) (q0_bestPlan : Nat) (q0_tried : Nat) (q0_tracks : Nat) (q0_kept : Nat) (q0_isKept : Nat) (q0_keptCame : Nat) (n_read : Nat) (i_houses : Int32) (i_weatherMany : Int32) (i_typed : Int32) (i_rowMany : Int32) (i_thrown : Int32) (i_length : Int32) (i_top : Int32) (i_at : Int32) (i_wrong : Int32) (i_ruleSize : Int32) (i_isAsked : Int32) (i_askedInches : Int32) (i_askedPath : Int32) (i_askedDay : Int32) (i_askedRoof : Int32) (i_askedBelow : Int32) (i_askedLoose : Int32) (i_slidesMany : Int32) (i_owedNow : Int32) (i_slidInto : Int32) (i_undoMany : Int32) (i_bestLength : Int32) (i_setOff : Int32) (i_letLie : Int32) (i_trackMany : Int32) (i_came : Int32) (a_read : Nat → Int32) : va_W := [(q0, .inr (12, [.ref q0_now, .int i_houses, .ref q0_hold, .ref q0_below, .ref q0_hay, .ref q0_weather, .int i_weatherMany, .ref q0_text, .int i_typed, .ref q0_row, .int i_rowMany, .int i_thrown, .ref q0_read, .int i_length, .int i_top, .int i_at, .int i_wrong, .ref q0_comes, .ref q0_rule, .int i_ruleSize, .int i_isAsked, .int i_askedInches, .int i_askedPath, .int i_askedDay, .int i_askedRoof, .int i_askedBelow, .int i_askedLoose, .int i_slidesMany, .int i_owedNow, .ref q0_owedBy, .int i_slidInto, .ref q0_undos, .int i_undoMany, .ref q0_aside, .ref q0_acts, .ref q0_ring, .ref q0_bestRing, .int i_bestLength, .ref q0_nets, .ref q0_worked, .ref q0_then, .ref q0_plan, .ref q0_bestPlan, .ref q0_tried, .int i_setOff, .int i_letLie, .ref q0_tracks, .int i_trackMany, .int i_came, .ref q0_kept, .ref q0_isKept, .ref q0_keptCame])), (q0_read, .inl (E.2.2.1, n_read, .inl a_read))]
set_option maxHeartbeats 4000000 in
set_option maxRecDepth 20000 in
theorem kX12_here (l : Launch) (E : ENV) (q0 : Nat) (q0_now : Nat) (q0_hold : Nat) (q0_below : Nat) (q0_hay : Nat) (q0_weather : Nat) (q0_text : Nat) (q0_row : Nat) (q0_read : Nat) (q0_comes : Nat) (q0_rule : Nat) (q0_owedBy : Nat) (q0_undos : Nat) (q0_aside : Nat) (q0_acts : Nat) (q0_ring : Nat) (q0_bestRing : Nat) (q0_nets : Nat) (q0_worked : Nat) (q0_then : Nat) (q0_plan : Nat) (q0_bestPlan : Nat) (q0_tried : Nat) (q0_tracks : Nat) (q0_kept : Nat) (q0_isKept : Nat) (q0_keptCame : Nat) (n_read : Nat) (i_houses : Int32) (i_weatherMany : Int32) (i_typed : Int32) (i_rowMany : Int32) (i_thrown : Int32) (i_length : Int32) (i_top : Int32) (i_at : Int32) (i_wrong : Int32) (i_ruleSize : Int32) (i_isAsked : Int32) (i_askedInches : Int32) (i_askedPath : Int32) (i_askedDay : Int32) (i_askedRoof : Int32) (i_askedBelow : Int32) (i_askedLoose : Int32) (i_slidesMany : Int32) (i_owedNow : Int32) (i_slidInto : Int32) (i_undoMany : Int32) (i_bestLength : Int32) (i_setOff : Int32) (i_letLie : Int32) (i_trackMany : Int32) (i_came : Int32) (a_read : Nat → Int32) (r9 : Int32) (hf : fX12_here n_read i_length i_top i_at a_read = some r9) : CI l E yX12_here cX12_here 1 (some .int) 0 [.ref q0] (WX12_here E q0 q0_now q0_hold q0_below q0_hay q0_weather q0_text q0_row q0_read q0_comes q0_rule q0_owedBy q0_undos q0_aside q0_acts q0_ring q0_bestRing q0_nets q0_worked q0_then q0_plan q0_bestPlan q0_tried q0_tracks q0_kept q0_isKept q0_keptCame n_read i_houses i_weatherMany i_typed i_rowMany i_thrown i_length i_top i_at i_wrong i_ruleSize i_isAsked i_askedInches i_askedPath i_askedDay i_askedRoof i_askedBelow i_askedLoose i_slidesMany i_owedNow i_slidInto i_undoMany i_bestLength i_setOff i_letLie i_trackMany i_came a_read) (WX12_here E q0 q0_now q0_hold q0_below q0_hay q0_weather q0_text q0_row q0_read q0_comes q0_rule q0_owedBy q0_undos q0_aside q0_acts q0_ring q0_bestRing q0_nets q0_worked q0_then q0_plan q0_bestPlan q0_tried q0_tracks q0_kept q0_isKept q0_keptCame n_read i_houses i_weatherMany i_typed i_rowMany i_thrown i_length i_top i_at i_wrong i_ruleSize i_isAsked i_askedInches i_askedPath i_askedDay i_askedRoof i_askedBelow i_askedLoose i_slidesMany i_owedNow i_slidInto i_undoMany i_bestLength i_setOff i_letLie i_trackMany i_came a_read) r9 := by
  refine begI (by decide +kernel) (Nat.le_of_ble_eq_true rfl) ?_
  intro p e s m args below meth c A Q C hA hret
  have hx := C.1
  have hb := C.2.1
  intro H locs ls hl hP hD hS
  have hl : lv_has ls 1 [(0, .ref q0)] := hl
  unfold fX12_here at hf
  refine lv_aload_n hx hb dX12_here_0 rfl (lv_at hl 0 rfl) ?_
  refine gf_RX12_117 C hP 0 rfl rfl dX12_here_1 ?_
  refine lv_aload_n hx hb dX12_here_4 rfl (lv_at hl 0 rfl) ?_
  refine gf_RX12_111 C hP 0 rfl rfl dX12_here_5 ?_
  refine lv_icmp_ge (tgt := 34) hx hb dX12_here_8 (by decide) (fun c1 => ?_) (fun c1 => ?_)
  · rw [if_pos c1] at hf
    refine lv_iconst (v := (-1)) hx hb dX12_here_34 (by decide) ?_
    have hj0 := Option.some.inj hf
    subst hj0
    exact hret _ _ _ _ dX12_here_35 rfl hP hD hS
  · rw [if_neg c1] at hf
    refine lv_aload_n hx hb dX12_here_11 rfl (lv_at hl 0 rfl) ?_
    refine gf_RX12_117 C hP 0 rfl rfl dX12_here_12 ?_
    refine lv_aload_n hx hb dX12_here_15 rfl (lv_at hl 0 rfl) ?_
    refine gf_RX12_114 C hP 0 rfl rfl dX12_here_16 ?_
    refine lv_icmp_ge (tgt := 34) hx hb dX12_here_19 (by decide) (fun c2 => ?_) (fun c2 => ?_)
    · rw [if_pos c2] at hf
      refine lv_iconst (v := (-1)) hx hb dX12_here_34 (by decide) ?_
      have hj0 := Option.some.inj hf
      subst hj0
      exact hret _ _ _ _ dX12_here_35 rfl hP hD hS
    · rw [if_neg c2] at hf
      refine lv_aload_n hx hb dX12_here_22 rfl (lv_at hl 0 rfl) ?_
      refine gf_RX12_108 C hP 0 rfl rfl dX12_here_23 ?_
      refine lv_aload_n hx hb dX12_here_26 rfl (lv_at hl 0 rfl) ?_
      refine gf_RX12_117 C hP 0 rfl rfl dX12_here_27 ?_
      obtain ⟨g3, hf⟩ := gd_some hf
      refine va_bald hx hb C.2.2.2.2.2.1 hP 1 1 rfl rfl (vin_in g3) dX12_here_30 ?_
      refine lv_goto (tgt := 35) hx hb dX12_here_31 (by decide) ?_
      have hj0 := Option.some.inj hf
      subst hj0
      exact hret _ _ _ _ dX12_here_35 rfl hP hD hS
theorem gf_RX12_120 {p : Program} {l : Launch} {e : Env} {R : Room} {s : State} {m : MethodId} {args : Array Value} {below : List Frame} {meth : Method} {c : Code} {H : Heap} {locs : List Loc} {cells slots : Nat} {Q : State → Prop} {E : ENV} {cc : ByteArray} {n : Nat} {r : Option FieldType} {pc : Nat} {ls : Array Slot} {rest : List Value} {a : Nat} {ws : va_W} {nm ds : String} {fs : List Value} {A : Nat → Prop} {v : Value} (C : Cx E A ⟨RX12, nm, ds⟩ cc n r p s m args meth c) (hP : va_P E.1 classes ws H) (q0 : Nat) (he : ws[q0]? = some (a, .inr (12, fs))) (hv : fs[16]? = some v) (hdg : decode cc pc = .ok (.getfield 120, 3))
    (kk : W p l e R s m args below meth c H locs cells slots Q (F0 m (pc + 3) ls (v :: rest))) : W p l e R s m args below meth c H locs cells slots Q (F0 m pc ls (.ref a :: rest)) :=
  va_get (C := RX12) (T := TX12) (N := 52) (Ts := wl ⟨RX12, nm, ds⟩ cc n r) C.1 C.2.1 C.2.2.2.2.1 (fun w h => List.mem_cons_of_mem _ (inT12 w h)) C.2.2.2.1 C.2.2.2.2.2.1 hP q0 he rfl 16 (by decide) (C.2.2.2.2.1 _ (List.mem_cons_of_mem _ q1342)) (fun _ h9 => h9) hv hdg kk
theorem dX12_fine_0 : decode cX12_fine 0 = .ok (.aload_n 0, 1) := by decide +kernel
theorem dX12_fine_1 : decode cX12_fine 1 = .ok (.getfield 120, 3) := by decide +kernel
theorem dX12_fine_4 : decode cX12_fine 4 = .ok (.iconst (-1), 1) := by decide +kernel
theorem dX12_fine_5 : decode cX12_fine 5 = .ok (.if_icmp .ne 7, 3) := by decide +kernel
theorem dX12_fine_8 : decode cX12_fine 8 = .ok (.iconst 1, 1) := by decide +kernel
theorem dX12_fine_9 : decode cX12_fine 9 = .ok (.goto 4, 3) := by decide +kernel
theorem dX12_fine_12 : decode cX12_fine 12 = .ok (.iconst 0, 1) := by decide +kernel
theorem dX12_fine_13 : decode cX12_fine 13 = .ok (.ireturn, 1) := by decide +kernel
def WX12_fine (E : ENV) (q0 : Nat) (q0_now : Nat) (q0_hold : Nat) (q0_below : Nat) (q0_hay : Nat) (q0_weather : Nat) (q0_text : Nat) (q0_row : Nat) (q0_comes : Nat) (q0_rule : Nat) (q0_owedBy : Nat) (q0_undos : Nat) (q0_aside : Nat) (q0_acts : Nat) (q0_ring : Nat) (q0_bestRing : Nat) (q0_nets : Nat) (q0_worked : Nat) (q0_then : Nat) (q0_plan : Nat) (q0_bestPlan : Nat) (q0_tried : Nat) (q0_tracks : Nat) (q0_kept : Nat) (q0_isKept : Nat) (q0_keptCame : Nat) (i_houses : Int32) (i_weatherMany : Int32) (i_typed : Int32) (i_rowMany : Int32) (i_thrown : Int32) (x_read : Value) (i_length : Int32) (i_top : Int32) (i_at : Int32) (i_wrong : Int32) (i_ruleSize : Int32) (i_isAsked : Int32) (i_askedInches : Int32) (i_askedPath : Int32) (i_askedDay : Int32) (i_askedRoof : Int32) (i_askedBelow : Int32) (i_askedLoose : Int32) (i_slidesMany : Int32) (i_owedNow : Int32) (i_slidInto : Int32) (i_undoMany : Int32) (i_bestLength : Int32) (i_setOff : Int32) (i_letLie : Int32) (i_trackMany : Int32) (i_came : Int32) : va_W := [(q0, .inr (12, [.ref q0_now, .int i_houses, .ref q0_hold, .ref q0_below, .ref q0_hay, .ref q0_weather, .int i_weatherMany, .ref q0_text, .int i_typed, .ref q0_row, .int i_rowMany, .int i_thrown, x_read, .int i_length, .int i_top, .int i_at, .int i_wrong, .ref q0_comes, .ref q0_rule, .int i_ruleSize, .int i_isAsked, .int i_askedInches, .int i_askedPath, .int i_askedDay, .int i_askedRoof, .int i_askedBelow, .int i_askedLoose, .int i_slidesMany, .int i_owedNow, .ref q0_owedBy, .int i_slidInto, .ref q0_undos, .int i_undoMany, .ref q0_aside, .ref q0_acts, .ref q0_ring, .ref q0_bestRing, .int i_bestLength, .ref q0_nets, .ref q0_worked, .ref q0_then, .ref q0_plan, .ref q0_bestPlan, .ref q0_tried, .int i_setOff, .int i_letLie, .ref q0_tracks, .int i_trackMany, .int i_came, .ref q0_kept, .ref q0_isKept, .ref q0_keptCame]))]
set_option maxHeartbeats 4000000 in
set_option maxRecDepth 20000 in
theorem kX12_fine (l : Launch) (E : ENV) (q0 : Nat) (q0_now : Nat) (q0_hold : Nat) (q0_below : Nat) (q0_hay : Nat) (q0_weather : Nat) (q0_text : Nat) (q0_row : Nat) (q0_comes : Nat) (q0_rule : Nat) (q0_owedBy : Nat) (q0_undos : Nat) (q0_aside : Nat) (q0_acts : Nat) (q0_ring : Nat) (q0_bestRing : Nat) (q0_nets : Nat) (q0_worked : Nat) (q0_then : Nat) (q0_plan : Nat) (q0_bestPlan : Nat) (q0_tried : Nat) (q0_tracks : Nat) (q0_kept : Nat) (q0_isKept : Nat) (q0_keptCame : Nat) (i_houses : Int32) (i_weatherMany : Int32) (i_typed : Int32) (i_rowMany : Int32) (i_thrown : Int32) (x_read : Value) (i_length : Int32) (i_top : Int32) (i_at : Int32) (i_wrong : Int32) (i_ruleSize : Int32) (i_isAsked : Int32) (i_askedInches : Int32) (i_askedPath : Int32) (i_askedDay : Int32) (i_askedRoof : Int32) (i_askedBelow : Int32) (i_askedLoose : Int32) (i_slidesMany : Int32) (i_owedNow : Int32) (i_slidInto : Int32) (i_undoMany : Int32) (i_bestLength : Int32) (i_setOff : Int32) (i_letLie : Int32) (i_trackMany : Int32) (i_came : Int32) (r9 : Int32) (hf : fX12_fine i_wrong = some r9) : CI l E yX12_fine cX12_fine 1 (some .boolean) 0 [.ref q0] (WX12_fine E q0 q0_now q0_hold q0_below q0_hay q0_weather q0_text q0_row q0_comes q0_rule q0_owedBy q0_undos q0_aside q0_acts q0_ring q0_bestRing q0_nets q0_worked q0_then q0_plan q0_bestPlan q0_tried q0_tracks q0_kept q0_isKept q0_keptCame i_houses i_weatherMany i_typed i_rowMany i_thrown x_read i_length i_top i_at i_wrong i_ruleSize i_isAsked i_askedInches i_askedPath i_askedDay i_askedRoof i_askedBelow i_askedLoose i_slidesMany i_owedNow i_slidInto i_undoMany i_bestLength i_setOff i_letLie i_trackMany i_came) (WX12_fine E q0 q0_now q0_hold q0_below q0_hay q0_weather q0_text q0_row q0_comes q0_rule q0_owedBy q0_undos q0_aside q0_acts q0_ring q0_bestRing q0_nets q0_worked q0_then q0_plan q0_bestPlan q0_tried q0_tracks q0_kept q0_isKept q0_keptCame i_houses i_weatherMany i_typed i_rowMany i_thrown x_read i_length i_top i_at i_wrong i_ruleSize i_isAsked i_askedInches i_askedPath i_askedDay i_askedRoof i_askedBelow i_askedLoose i_slidesMany i_owedNow i_slidInto i_undoMany i_bestLength i_setOff i_letLie i_trackMany i_came) r9 := by
  refine begI (by decide +kernel) (Nat.le_of_ble_eq_true rfl) ?_
  intro p e s m args below meth c A Q C hA hret
  have hx := C.1
  have hb := C.2.1
  intro H locs ls hl hP hD hS
  have hl : lv_has ls 1 [(0, .ref q0)] := hl
  unfold fX12_fine at hf
  refine lv_aload_n hx hb dX12_fine_0 rfl (lv_at hl 0 rfl) ?_
  refine gf_RX12_120 C hP 0 rfl rfl dX12_fine_1 ?_
  refine lv_iconst (v := (-1)) hx hb dX12_fine_4 (by decide) ?_
  refine lv_icmp_ne (tgt := 12) hx hb dX12_fine_5 (by decide) (fun c1 => ?_) (fun c1 => ?_)
  · rw [if_neg c1] at hf
    refine lv_iconst (v := 0) hx hb dX12_fine_12 (by decide) ?_
    have hj0 := Option.some.inj hf
    subst hj0
    exact hret _ _ _ _ dX12_fine_13 rfl hP hD hS
  · rw [if_pos c1] at hf
    refine lv_iconst (v := 1) hx hb dX12_fine_8 (by decide) ?_
    refine lv_goto (tgt := 13) hx hb dX12_fine_9 (by decide) ?_
    have hj0 := Option.some.inj hf
    subst hj0
    exact hret _ _ _ _ dX12_fine_13 rfl hP hD hS
theorem K_RX12_123 : KV RX12 123 yX12_fine cX12_fine 1 (some .boolean) 0 := ⟨Tg_mem 1510 (by decide +kernel) (by decide +kernel), Tg_mem 102 (by decide +kernel) (by decide +kernel), Tg_mem 1507 (by decide +kernel) (by decide +kernel), Tg_mem 1509 (by decide +kernel) (by decide +kernel), Tg_mem 42 (by decide +kernel) (by decide +kernel), by decide +kernel⟩
theorem dX12_fault_0 : decode cX12_fault 0 = .ok (.aload_n 0, 1) := by decide +kernel
theorem dX12_fault_1 : decode cX12_fault 1 = .ok (.invokevirtual 123, 3) := by decide +kernel
theorem dX12_fault_4 : decode cX12_fault 4 = .ok (.ifCond .eq 8, 3) := by decide +kernel
theorem dX12_fault_7 : decode cX12_fault 7 = .ok (.aload_n 0, 1) := by decide +kernel
theorem dX12_fault_8 : decode cX12_fault 8 = .ok (.iload_n 1, 1) := by decide +kernel
theorem dX12_fault_9 : decode cX12_fault 9 = .ok (.putfield 120, 3) := by decide +kernel
theorem dX12_fault_12 : decode cX12_fault 12 = .ok (.return_, 1) := by decide +kernel
def WX12_fault (E : ENV) (q0 : Nat) (q0_now : Nat) (q0_hold : Nat) (q0_below : Nat) (q0_hay : Nat) (q0_weather : Nat) (q0_text : Nat) (q0_row : Nat) (q0_comes : Nat) (q0_rule : Nat) (q0_owedBy : Nat) (q0_undos : Nat) (q0_aside : Nat) (q0_acts : Nat) (q0_ring : Nat) (q0_bestRing : Nat) (q0_nets : Nat) (q0_worked : Nat) (q0_then : Nat) (q0_plan : Nat) (q0_bestPlan : Nat) (q0_tried : Nat) (q0_tracks : Nat) (q0_kept : Nat) (q0_isKept : Nat) (q0_keptCame : Nat) (i_houses : Int32) (i_weatherMany : Int32) (i_typed : Int32) (i_rowMany : Int32) (i_thrown : Int32) (x_read : Value) (i_length : Int32) (i_top : Int32) (i_at : Int32) (i_wrong : Int32) (i_ruleSize : Int32) (i_isAsked : Int32) (i_askedInches : Int32) (i_askedPath : Int32) (i_askedDay : Int32) (i_askedRoof : Int32) (i_askedBelow : Int32) (i_askedLoose : Int32) (i_slidesMany : Int32) (i_owedNow : Int32) (i_slidInto : Int32) (i_undoMany : Int32) (i_bestLength : Int32) (i_setOff : Int32) (i_letLie : Int32) (i_trackMany : Int32) (i_came : Int32) : va_W := [(q0, .inr (12, [.ref q0_now, .int i_houses, .ref q0_hold, .ref q0_below, .ref q0_hay, .ref q0_weather, .int i_weatherMany, .ref q0_text, .int i_typed, .ref q0_row, .int i_rowMany, .int i_thrown, x_read, .int i_length, .int i_top, .int i_at, .int i_wrong, .ref q0_comes, .ref q0_rule, .int i_ruleSize, .int i_isAsked, .int i_askedInches, .int i_askedPath, .int i_askedDay, .int i_askedRoof, .int i_askedBelow, .int i_askedLoose, .int i_slidesMany, .int i_owedNow, .ref q0_owedBy, .int i_slidInto, .ref q0_undos, .int i_undoMany, .ref q0_aside, .ref q0_acts, .ref q0_ring, .ref q0_bestRing, .int i_bestLength, .ref q0_nets, .ref q0_worked, .ref q0_then, .ref q0_plan, .ref q0_bestPlan, .ref q0_tried, .int i_setOff, .int i_letLie, .ref q0_tracks, .int i_trackMany, .int i_came, .ref q0_kept, .ref q0_isKept, .ref q0_keptCame]))]
set_option maxHeartbeats 4000000 in
set_option maxRecDepth 20000 in
theorem kX12_fault (l : Launch) (E : ENV) (q0 : Nat) (q0_now : Nat) (q0_hold : Nat) (q0_below : Nat) (q0_hay : Nat) (q0_weather : Nat) (q0_text : Nat) (q0_row : Nat) (q0_comes : Nat) (q0_rule : Nat) (q0_owedBy : Nat) (q0_undos : Nat) (q0_aside : Nat) (q0_acts : Nat) (q0_ring : Nat) (q0_bestRing : Nat) (q0_nets : Nat) (q0_worked : Nat) (q0_then : Nat) (q0_plan : Nat) (q0_bestPlan : Nat) (q0_tried : Nat) (q0_tracks : Nat) (q0_kept : Nat) (q0_isKept : Nat) (q0_keptCame : Nat) (i_houses : Int32) (i_weatherMany : Int32) (i_typed : Int32) (i_rowMany : Int32) (i_thrown : Int32) (x_read : Value) (i_length : Int32) (i_top : Int32) (i_at : Int32) (i_wrong : Int32) (i_ruleSize : Int32) (i_isAsked : Int32) (i_askedInches : Int32) (i_askedPath : Int32) (i_askedDay : Int32) (i_askedRoof : Int32) (i_askedBelow : Int32) (i_askedLoose : Int32) (i_slidesMany : Int32) (i_owedNow : Int32) (i_slidInto : Int32) (i_undoMany : Int32) (i_bestLength : Int32) (i_setOff : Int32) (i_letLie : Int32) (i_trackMany : Int32) (i_came : Int32) (p1 : Int32) (i_wrong9 : Int32) (hf : fX12_fault i_wrong p1 = some i_wrong9) : CV l E yX12_fault cX12_fault 2 1 [.ref q0, .int p1] (WX12_fault E q0 q0_now q0_hold q0_below q0_hay q0_weather q0_text q0_row q0_comes q0_rule q0_owedBy q0_undos q0_aside q0_acts q0_ring q0_bestRing q0_nets q0_worked q0_then q0_plan q0_bestPlan q0_tried q0_tracks q0_kept q0_isKept q0_keptCame i_houses i_weatherMany i_typed i_rowMany i_thrown x_read i_length i_top i_at i_wrong i_ruleSize i_isAsked i_askedInches i_askedPath i_askedDay i_askedRoof i_askedBelow i_askedLoose i_slidesMany i_owedNow i_slidInto i_undoMany i_bestLength i_setOff i_letLie i_trackMany i_came) (WX12_fault E q0 q0_now q0_hold q0_below q0_hay q0_weather q0_text q0_row q0_comes q0_rule q0_owedBy q0_undos q0_aside q0_acts q0_ring q0_bestRing q0_nets q0_worked q0_then q0_plan q0_bestPlan q0_tried q0_tracks q0_kept q0_isKept q0_keptCame i_houses i_weatherMany i_typed i_rowMany i_thrown x_read i_length i_top i_at i_wrong9 i_ruleSize i_isAsked i_askedInches i_askedPath i_askedDay i_askedRoof i_askedBelow i_askedLoose i_slidesMany i_owedNow i_slidInto i_undoMany i_bestLength i_setOff i_letLie i_trackMany i_came) := by
  refine begV (by decide +kernel) (Nat.le_of_ble_eq_true rfl) ?_
  intro p e s m args below meth c A Q C hA hret
  have hx := C.1
  have hb := C.2.1
  intro H locs ls hl hP hD hS
  have hl : lv_has ls 2 [(0, .ref q0), (1, .int p1)] := hl
  unfold fX12_fault at hf
  refine lv_aload_n hx hb dX12_fault_0 rfl (lv_at hl 0 rfl) ?_
  obtain ⟨o1, hg2, hf⟩ := bd_some hf
  refine k_VI (As := []) C K_RX12_123 (Nat.le_of_ble_eq_true rfl) (Nat.le_of_ble_eq_true rfl) (kX12_fine l E q0 q0_now q0_hold q0_below q0_hay q0_weather q0_text q0_row q0_comes q0_rule q0_owedBy q0_undos q0_aside q0_acts q0_ring q0_bestRing q0_nets q0_worked q0_then q0_plan q0_bestPlan q0_tried q0_tracks q0_kept q0_isKept q0_keptCame i_houses i_weatherMany i_typed i_rowMany i_thrown x_read i_length i_top i_at i_wrong i_ruleSize i_isAsked i_askedInches i_askedPath i_askedDay i_askedRoof i_askedBelow i_askedLoose i_slidesMany i_owedNow i_slidInto i_undoMany i_bestLength i_setOff i_letLie i_trackMany i_came o1 hg2) [0] rfl rfl rfl (ci := 12) rfl rfl (q0 := 0) rfl hP hD hS hA hl.1 (Nat.le_of_ble_eq_true rfl) rfl dX12_fault_1 (fun H locs hP hD hS => ?_)
  have hP : va_P E.1 classes (WX12_fault E q0 q0_now q0_hold q0_below q0_hay q0_weather q0_text q0_row q0_comes q0_rule q0_owedBy q0_undos q0_aside q0_acts q0_ring q0_bestRing q0_nets q0_worked q0_then q0_plan q0_bestPlan q0_tried q0_tracks q0_kept q0_isKept q0_keptCame i_houses i_weatherMany i_typed i_rowMany i_thrown x_read i_length i_top i_at i_wrong i_ruleSize i_isAsked i_askedInches i_askedPath i_askedDay i_askedRoof i_askedBelow i_askedLoose i_slidesMany i_owedNow i_slidInto i_undoMany i_bestLength i_setOff i_letLie i_trackMany i_came) H := hP
  have hD : va_D A (WX12_fault E q0 q0_now q0_hold q0_below q0_hay q0_weather q0_text q0_row q0_comes q0_rule q0_owedBy q0_undos q0_aside q0_acts q0_ring q0_bestRing q0_nets q0_worked q0_then q0_plan q0_bestPlan q0_tried q0_tracks q0_kept q0_isKept q0_keptCame i_houses i_weatherMany i_typed i_rowMany i_thrown x_read i_length i_top i_at i_wrong i_ruleSize i_isAsked i_askedInches i_askedPath i_askedDay i_askedRoof i_askedBelow i_askedLoose i_slidesMany i_owedNow i_slidInto i_undoMany i_bestLength i_setOff i_letLie i_trackMany i_came) := hD
  refine lv_if_eq (tgt := 12) hx hb dX12_fault_4 (by decide) (fun c3 => ?_) (fun c3 => ?_)
  · rw [if_pos c3] at hf
    have hj0 := Option.some.inj hf
    subst hj0
    exact hret _ _ _ _ dX12_fault_12 hP hD hS
  · rw [if_neg c3] at hf
    refine lv_aload_n hx hb dX12_fault_7 rfl (lv_at hl 0 rfl) ?_
    refine lv_iload_n hx hb dX12_fault_8 rfl (lv_at hl 1 rfl) ?_
    refine pf_RX12_120 C hP hD hS 0 rfl (Nat.le_of_ble_eq_true rfl) dX12_fault_9 (fun H locs hP hD hS => ?_)
    have hP : va_P E.1 classes (WX12_fault E q0 q0_now q0_hold q0_below q0_hay q0_weather q0_text q0_row q0_comes q0_rule q0_owedBy q0_undos q0_aside q0_acts q0_ring q0_bestRing q0_nets q0_worked q0_then q0_plan q0_bestPlan q0_tried q0_tracks q0_kept q0_isKept q0_keptCame i_houses i_weatherMany i_typed i_rowMany i_thrown x_read i_length i_top i_at p1 i_ruleSize i_isAsked i_askedInches i_askedPath i_askedDay i_askedRoof i_askedBelow i_askedLoose i_slidesMany i_owedNow i_slidInto i_undoMany i_bestLength i_setOff i_letLie i_trackMany i_came) H := hP
    have hD : va_D A (WX12_fault E q0 q0_now q0_hold q0_below q0_hay q0_weather q0_text q0_row q0_comes q0_rule q0_owedBy q0_undos q0_aside q0_acts q0_ring q0_bestRing q0_nets q0_worked q0_then q0_plan q0_bestPlan q0_tried q0_tracks q0_kept q0_isKept q0_keptCame i_houses i_weatherMany i_typed i_rowMany i_thrown x_read i_length i_top i_at p1 i_ruleSize i_isAsked i_askedInches i_askedPath i_askedDay i_askedRoof i_askedBelow i_askedLoose i_slidesMany i_owedNow i_slidInto i_undoMany i_bestLength i_setOff i_letLie i_trackMany i_came) := hD
    have hj0 := Option.some.inj hf
    subst hj0
    exact hret _ _ _ _ dX12_fault_12 hP hD hS
theorem K_RX12_127 : KV RX12 127 yX12_here cX12_here 1 (some .int) 0 := ⟨Tg_mem 1522 (by decide +kernel) (by decide +kernel), Tg_mem 102 (by decide +kernel) (by decide +kernel), Tg_mem 1519 (by decide +kernel) (by decide +kernel), Tg_mem 1521 (by decide +kernel) (by decide +kernel), Tg_mem 45 (by decide +kernel) (by decide +kernel), by decide +kernel⟩
theorem dX12_passes_0 : decode cX12_passes 0 = .ok (.aload_n 0, 1) := by decide +kernel
theorem dX12_passes_1 : decode cX12_passes 1 = .ok (.invokevirtual 123, 3) := by decide +kernel
theorem dX12_passes_4 : decode cX12_passes 4 = .ok (.ifCond .eq 11, 3) := by decide +kernel
theorem dX12_passes_7 : decode cX12_passes 7 = .ok (.aload_n 0, 1) := by decide +kernel
theorem dX12_passes_8 : decode cX12_passes 8 = .ok (.invokevirtual 127, 3) := by decide +kernel
theorem dX12_passes_11 : decode cX12_passes 11 = .ok (.iload_n 1, 1) := by decide +kernel
theorem dX12_passes_12 : decode cX12_passes 12 = .ok (.if_icmp .eq 5, 3) := by decide +kernel
theorem dX12_passes_15 : decode cX12_passes 15 = .ok (.iconst 0, 1) := by decide +kernel
theorem dX12_passes_16 : decode cX12_passes 16 = .ok (.ireturn, 1) := by decide +kernel
theorem dX12_passes_17 : decode cX12_passes 17 = .ok (.aload_n 0, 1) := by decide +kernel
theorem dX12_passes_18 : decode cX12_passes 18 = .ok (.dup, 1) := by decide +kernel
theorem dX12_passes_19 : decode cX12_passes 19 = .ok (.getfield 117, 3) := by decide +kernel
theorem dX12_passes_22 : decode cX12_passes 22 = .ok (.iconst 1, 1) := by decide +kernel
theorem dX12_passes_23 : decode cX12_passes 23 = .ok (.iadd, 1) := by decide +kernel
theorem dX12_passes_24 : decode cX12_passes 24 = .ok (.putfield 117, 3) := by decide +kernel
theorem dX12_passes_27 : decode cX12_passes 27 = .ok (.iconst 1, 1) := by decide +kernel
theorem dX12_passes_28 : decode cX12_passes 28 = .ok (.ireturn, 1) := by decide +kernel
def WX12_passes (E : ENV) (q0 : Nat) (q0_now : Nat) (q0_hold : Nat) (q0_below : Nat) (q0_hay : Nat) (q0_weather : Nat) (q0_text : Nat) (q0_row : Nat) (q0_read : Nat) (q0_comes : Nat) (q0_rule : Nat) (q0_owedBy : Nat) (q0_undos : Nat) (q0_aside : Nat) (q0_acts : Nat) (q0_ring : Nat) (q0_bestRing : Nat) (q0_nets : Nat) (q0_worked : Nat) (q0_then : Nat) (q0_plan : Nat) (q0_bestPlan : Nat) (q0_tried : Nat) (q0_tracks : Nat) (q0_kept : Nat) (q0_isKept : Nat) (q0_keptCame : Nat) (n_read : Nat) (i_houses : Int32) (i_weatherMany : Int32) (i_typed : Int32) (i_rowMany : Int32) (i_thrown : Int32) (i_length : Int32) (i_top : Int32) (i_at : Int32) (i_wrong : Int32) (i_ruleSize : Int32) (i_isAsked : Int32) (i_askedInches : Int32) (i_askedPath : Int32) (i_askedDay : Int32) (i_askedRoof : Int32) (i_askedBelow : Int32) (i_askedLoose : Int32) (i_slidesMany : Int32) (i_owedNow : Int32) (i_slidInto : Int32) (i_undoMany : Int32) (i_bestLength : Int32) (i_setOff : Int32) (i_letLie : Int32) (i_trackMany : Int32) (i_came : Int32) (a_read : Nat → Int32) : va_W := [(q0, .inr (12, [.ref q0_now, .int i_houses, .ref q0_hold, .ref q0_below, .ref q0_hay, .ref q0_weather, .int i_weatherMany, .ref q0_text, .int i_typed, .ref q0_row, .int i_rowMany, .int i_thrown, .ref q0_read, .int i_length, .int i_top, .int i_at, .int i_wrong, .ref q0_comes, .ref q0_rule, .int i_ruleSize, .int i_isAsked, .int i_askedInches, .int i_askedPath, .int i_askedDay, .int i_askedRoof, .int i_askedBelow, .int i_askedLoose, .int i_slidesMany, .int i_owedNow, .ref q0_owedBy, .int i_slidInto, .ref q0_undos, .int i_undoMany, .ref q0_aside, .ref q0_acts, .ref q0_ring, .ref q0_bestRing, .int i_bestLength, .ref q0_nets, .ref q0_worked, .ref q0_then, .ref q0_plan, .ref q0_bestPlan, .ref q0_tried, .int i_setOff, .int i_letLie, .ref q0_tracks, .int i_trackMany, .int i_came, .ref q0_kept, .ref q0_isKept, .ref q0_keptCame])), (q0_read, .inl (E.2.2.1, n_read, .inl a_read))]
set_option maxHeartbeats 4000000 in
set_option maxRecDepth 20000 in
theorem kX12_passes (l : Launch) (E : ENV) (q0 : Nat) (q0_now : Nat) (q0_hold : Nat) (q0_below : Nat) (q0_hay : Nat) (q0_weather : Nat) (q0_text : Nat) (q0_row : Nat) (q0_read : Nat) (q0_comes : Nat) (q0_rule : Nat) (q0_owedBy : Nat) (q0_undos : Nat) (q0_aside : Nat) (q0_acts : Nat) (q0_ring : Nat) (q0_bestRing : Nat) (q0_nets : Nat) (q0_worked : Nat) (q0_then : Nat) (q0_plan : Nat) (q0_bestPlan : Nat) (q0_tried : Nat) (q0_tracks : Nat) (q0_kept : Nat) (q0_isKept : Nat) (q0_keptCame : Nat) (n_read : Nat) (i_houses : Int32) (i_weatherMany : Int32) (i_typed : Int32) (i_rowMany : Int32) (i_thrown : Int32) (i_length : Int32) (i_top : Int32) (i_at : Int32) (i_wrong : Int32) (i_ruleSize : Int32) (i_isAsked : Int32) (i_askedInches : Int32) (i_askedPath : Int32) (i_askedDay : Int32) (i_askedRoof : Int32) (i_askedBelow : Int32) (i_askedLoose : Int32) (i_slidesMany : Int32) (i_owedNow : Int32) (i_slidInto : Int32) (i_undoMany : Int32) (i_bestLength : Int32) (i_setOff : Int32) (i_letLie : Int32) (i_trackMany : Int32) (i_came : Int32) (a_read : Nat → Int32) (p1 : Int32) (r9 : Int32) (i_at9 : Int32) (hf : fX12_passes n_read i_length i_top i_at i_wrong a_read p1 = some (r9, i_at9)) : CI l E yX12_passes cX12_passes 2 (some .boolean) 1 [.ref q0, .int p1] (WX12_passes E q0 q0_now q0_hold q0_below q0_hay q0_weather q0_text q0_row q0_read q0_comes q0_rule q0_owedBy q0_undos q0_aside q0_acts q0_ring q0_bestRing q0_nets q0_worked q0_then q0_plan q0_bestPlan q0_tried q0_tracks q0_kept q0_isKept q0_keptCame n_read i_houses i_weatherMany i_typed i_rowMany i_thrown i_length i_top i_at i_wrong i_ruleSize i_isAsked i_askedInches i_askedPath i_askedDay i_askedRoof i_askedBelow i_askedLoose i_slidesMany i_owedNow i_slidInto i_undoMany i_bestLength i_setOff i_letLie i_trackMany i_came a_read) (WX12_passes E q0 q0_now q0_hold q0_below q0_hay q0_weather q0_text q0_row q0_read q0_comes q0_rule q0_owedBy q0_undos q0_aside q0_acts q0_ring q0_bestRing q0_nets q0_worked q0_then q0_plan q0_bestPlan q0_tried q0_tracks q0_kept q0_isKept q0_keptCame n_read i_houses i_weatherMany i_typed i_rowMany i_thrown i_length i_top i_at9 i_wrong i_ruleSize i_isAsked i_askedInches i_askedPath i_askedDay i_askedRoof i_askedBelow i_askedLoose i_slidesMany i_owedNow i_slidInto i_undoMany i_bestLength i_setOff i_letLie i_trackMany i_came a_read) r9 := by
  refine begI (by decide +kernel) (Nat.le_of_ble_eq_true rfl) ?_
  intro p e s m args below meth c A Q C hA hret
  have hx := C.1
  have hb := C.2.1
  intro H locs ls hl hP hD hS
  have hl : lv_has ls 2 [(0, .ref q0), (1, .int p1)] := hl
  unfold fX12_passes at hf
  refine lv_aload_n hx hb dX12_passes_0 rfl (lv_at hl 0 rfl) ?_
  obtain ⟨o1, hg2, hf⟩ := bd_some hf
  refine k_VI (As := []) C K_RX12_123 (Nat.le_of_ble_eq_true rfl) (Nat.le_of_ble_eq_true rfl) (kX12_fine l E q0 q0_now q0_hold q0_below q0_hay q0_weather q0_text q0_row q0_comes q0_rule q0_owedBy q0_undos q0_aside q0_acts q0_ring q0_bestRing q0_nets q0_worked q0_then q0_plan q0_bestPlan q0_tried q0_tracks q0_kept q0_isKept q0_keptCame i_houses i_weatherMany i_typed i_rowMany i_thrown ((.ref q0_read)) i_length i_top i_at i_wrong i_ruleSize i_isAsked i_askedInches i_askedPath i_askedDay i_askedRoof i_askedBelow i_askedLoose i_slidesMany i_owedNow i_slidInto i_undoMany i_bestLength i_setOff i_letLie i_trackMany i_came o1 hg2) [0] rfl rfl rfl (ci := 12) rfl rfl (q0 := 0) rfl hP hD hS hA hl.1 (Nat.le_of_ble_eq_true rfl) rfl dX12_passes_1 (fun H locs hP hD hS => ?_)
  have hP : va_P E.1 classes (WX12_passes E q0 q0_now q0_hold q0_below q0_hay q0_weather q0_text q0_row q0_read q0_comes q0_rule q0_owedBy q0_undos q0_aside q0_acts q0_ring q0_bestRing q0_nets q0_worked q0_then q0_plan q0_bestPlan q0_tried q0_tracks q0_kept q0_isKept q0_keptCame n_read i_houses i_weatherMany i_typed i_rowMany i_thrown i_length i_top i_at i_wrong i_ruleSize i_isAsked i_askedInches i_askedPath i_askedDay i_askedRoof i_askedBelow i_askedLoose i_slidesMany i_owedNow i_slidInto i_undoMany i_bestLength i_setOff i_letLie i_trackMany i_came a_read) H := hP
  have hD : va_D A (WX12_passes E q0 q0_now q0_hold q0_below q0_hay q0_weather q0_text q0_row q0_read q0_comes q0_rule q0_owedBy q0_undos q0_aside q0_acts q0_ring q0_bestRing q0_nets q0_worked q0_then q0_plan q0_bestPlan q0_tried q0_tracks q0_kept q0_isKept q0_keptCame n_read i_houses i_weatherMany i_typed i_rowMany i_thrown i_length i_top i_at i_wrong i_ruleSize i_isAsked i_askedInches i_askedPath i_askedDay i_askedRoof i_askedBelow i_askedLoose i_slidesMany i_owedNow i_slidInto i_undoMany i_bestLength i_setOff i_letLie i_trackMany i_came a_read) := hD
  refine lv_if_eq (tgt := 15) hx hb dX12_passes_4 (by decide) (fun c3 => ?_) (fun c3 => ?_)
  · rw [if_pos c3] at hf
    refine lv_iconst (v := 0) hx hb dX12_passes_15 (by decide) ?_
    have hj0 := Option.some.inj hf
    obtain ⟨ha0, hj1⟩ := Prod.mk.inj hj0
    subst ha0
    subst hj1
    exact hret _ _ _ _ dX12_passes_16 rfl hP hD hS
  · rw [if_neg c3] at hf
    refine lv_aload_n hx hb dX12_passes_7 rfl (lv_at hl 0 rfl) ?_
    obtain ⟨o4, hg5, hf⟩ := bd_some hf
    refine k_VI (As := []) C K_RX12_127 (Nat.le_of_ble_eq_true rfl) (Nat.le_of_ble_eq_true rfl) (kX12_here l E q0 q0_now q0_hold q0_below q0_hay q0_weather q0_text q0_row q0_read q0_comes q0_rule q0_owedBy q0_undos q0_aside q0_acts q0_ring q0_bestRing q0_nets q0_worked q0_then q0_plan q0_bestPlan q0_tried q0_tracks q0_kept q0_isKept q0_keptCame n_read i_houses i_weatherMany i_typed i_rowMany i_thrown i_length i_top i_at i_wrong i_ruleSize i_isAsked i_askedInches i_askedPath i_askedDay i_askedRoof i_askedBelow i_askedLoose i_slidesMany i_owedNow i_slidInto i_undoMany i_bestLength i_setOff i_letLie i_trackMany i_came a_read o4 hg5) [0, 1] rfl rfl rfl (ci := 12) rfl rfl (q0 := 0) rfl hP hD hS hA hl.1 (Nat.le_of_ble_eq_true rfl) rfl dX12_passes_8 (fun H locs hP hD hS => ?_)
    have hP : va_P E.1 classes (WX12_passes E q0 q0_now q0_hold q0_below q0_hay q0_weather q0_text q0_row q0_read q0_comes q0_rule q0_owedBy q0_undos q0_aside q0_acts q0_ring q0_bestRing q0_nets q0_worked q0_then q0_plan q0_bestPlan q0_tried q0_tracks q0_kept q0_isKept q0_keptCame n_read i_houses i_weatherMany i_typed i_rowMany i_thrown i_length i_top i_at i_wrong i_ruleSize i_isAsked i_askedInches i_askedPath i_askedDay i_askedRoof i_askedBelow i_askedLoose i_slidesMany i_owedNow i_slidInto i_undoMany i_bestLength i_setOff i_letLie i_trackMany i_came a_read) H := hP
    have hD : va_D A (WX12_passes E q0 q0_now q0_hold q0_below q0_hay q0_weather q0_text q0_row q0_read q0_comes q0_rule q0_owedBy q0_undos q0_aside q0_acts q0_ring q0_bestRing q0_nets q0_worked q0_then q0_plan q0_bestPlan q0_tried q0_tracks q0_kept q0_isKept q0_keptCame n_read i_houses i_weatherMany i_typed i_rowMany i_thrown i_length i_top i_at i_wrong i_ruleSize i_isAsked i_askedInches i_askedPath i_askedDay i_askedRoof i_askedBelow i_askedLoose i_slidesMany i_owedNow i_slidInto i_undoMany i_bestLength i_setOff i_letLie i_trackMany i_came a_read) := hD
    refine lv_iload_n hx hb dX12_passes_11 rfl (lv_at hl 1 rfl) ?_
    refine lv_icmp_eq (tgt := 17) hx hb dX12_passes_12 (by decide) (fun c6 => ?_) (fun c6 => ?_)
    · rw [if_pos c6] at hf
      refine lv_aload_n hx hb dX12_passes_17 rfl (lv_at hl 0 rfl) ?_
      refine lv_dup hx hb dX12_passes_18 rfl ?_
      refine gf_RX12_117 C hP 0 rfl rfl dX12_passes_19 ?_
      refine lv_iconst (v := 1) hx hb dX12_passes_22 (by decide) ?_
      refine lv_iadd hx hb dX12_passes_23 ?_
      refine pf_RX12_117 C hP hD hS 0 rfl (Nat.le_of_ble_eq_true rfl) dX12_passes_24 (fun H locs hP hD hS => ?_)
      have hP : va_P E.1 classes (WX12_passes E q0 q0_now q0_hold q0_below q0_hay q0_weather q0_text q0_row q0_read q0_comes q0_rule q0_owedBy q0_undos q0_aside q0_acts q0_ring q0_bestRing q0_nets q0_worked q0_then q0_plan q0_bestPlan q0_tried q0_tracks q0_kept q0_isKept q0_keptCame n_read i_houses i_weatherMany i_typed i_rowMany i_thrown i_length i_top ((i_at + 1)) i_wrong i_ruleSize i_isAsked i_askedInches i_askedPath i_askedDay i_askedRoof i_askedBelow i_askedLoose i_slidesMany i_owedNow i_slidInto i_undoMany i_bestLength i_setOff i_letLie i_trackMany i_came a_read) H := hP
      have hD : va_D A (WX12_passes E q0 q0_now q0_hold q0_below q0_hay q0_weather q0_text q0_row q0_read q0_comes q0_rule q0_owedBy q0_undos q0_aside q0_acts q0_ring q0_bestRing q0_nets q0_worked q0_then q0_plan q0_bestPlan q0_tried q0_tracks q0_kept q0_isKept q0_keptCame n_read i_houses i_weatherMany i_typed i_rowMany i_thrown i_length i_top ((i_at + 1)) i_wrong i_ruleSize i_isAsked i_askedInches i_askedPath i_askedDay i_askedRoof i_askedBelow i_askedLoose i_slidesMany i_owedNow i_slidInto i_undoMany i_bestLength i_setOff i_letLie i_trackMany i_came a_read) := hD
      refine lv_iconst (v := 1) hx hb dX12_passes_27 (by decide) ?_
      have hj0 := Option.some.inj hf
      obtain ⟨ha0, hj1⟩ := Prod.mk.inj hj0
      subst ha0
      subst hj1
      exact hret _ _ _ _ dX12_passes_28 rfl hP hD hS
    · rw [if_neg c6] at hf
      refine lv_iconst (v := 0) hx hb dX12_passes_15 (by decide) ?_
      have hj0 := Option.some.inj hf
      obtain ⟨ha0, hj1⟩ := Prod.mk.inj hj0
      subst ha0
      subst hj1
      exact hret _ _ _ _ dX12_passes_16 rfl hP hD hS
theorem K_RX12_131 : KV RX12 131 yX12_passes cX12_passes 2 (some .boolean) 1 := ⟨Tg_mem 1530 (by decide +kernel) (by decide +kernel), Tg_mem 102 (by decide +kernel) (by decide +kernel), Tg_mem 1527 (by decide +kernel) (by decide +kernel), Tg_mem 1529 (by decide +kernel) (by decide +kernel), Tg_mem 47 (by decide +kernel) (by decide +kernel), by decide +kernel⟩
theorem K_RX12_135 : KV RX12 135 yX12_fault cX12_fault 2 none 1 := ⟨Tg_mem 1514 (by decide +kernel) (by decide +kernel), Tg_mem 102 (by decide +kernel) (by decide +kernel), Tg_mem 1511 (by decide +kernel) (by decide +kernel), Tg_mem 1513 (by decide +kernel) (by decide +kernel), Tg_mem 43 (by decide +kernel) (by decide +kernel), by decide +kernel⟩
theorem dX12_need_0 : decode cX12_need 0 = .ok (.aload_n 0, 1) := by decide +kernel
theorem dX12_need_1 : decode cX12_need 1 = .ok (.iload_n 1, 1) := by decide +kernel
theorem dX12_need_2 : decode cX12_need 2 = .ok (.invokevirtual 131, 3) := by decide +kernel
theorem dX12_need_5 : decode cX12_need 5 = .ok (.ifCond .ne 11, 3) := by decide +kernel
theorem dX12_need_8 : decode cX12_need 8 = .ok (.aload_n 0, 1) := by decide +kernel
theorem dX12_need_9 : decode cX12_need 9 = .ok (.aload_n 0, 1) := by decide +kernel
theorem dX12_need_10 : decode cX12_need 10 = .ok (.getfield 117, 3) := by decide +kernel
theorem dX12_need_13 : decode cX12_need 13 = .ok (.invokevirtual 135, 3) := by decide +kernel
theorem dX12_need_16 : decode cX12_need 16 = .ok (.return_, 1) := by decide +kernel
def WX12_need (E : ENV) (q0 : Nat) (q0_now : Nat) (q0_hold : Nat) (q0_below : Nat) (q0_hay : Nat) (q0_weather : Nat) (q0_text : Nat) (q0_row : Nat) (q0_read : Nat) (q0_comes : Nat) (q0_rule : Nat) (q0_owedBy : Nat) (q0_undos : Nat) (q0_aside : Nat) (q0_acts : Nat) (q0_ring : Nat) (q0_bestRing : Nat) (q0_nets : Nat) (q0_worked : Nat) (q0_then : Nat) (q0_plan : Nat) (q0_bestPlan : Nat) (q0_tried : Nat) (q0_tracks : Nat) (q0_kept : Nat) (q0_isKept : Nat) (q0_keptCame : Nat) (n_read : Nat) (i_houses : Int32) (i_weatherMany : Int32) (i_typed : Int32) (i_rowMany : Int32) (i_thrown : Int32) (i_length : Int32) (i_top : Int32) (i_at : Int32) (i_wrong : Int32) (i_ruleSize : Int32) (i_isAsked : Int32) (i_askedInches : Int32) (i_askedPath : Int32) (i_askedDay : Int32) (i_askedRoof : Int32) (i_askedBelow : Int32) (i_askedLoose : Int32) (i_slidesMany : Int32) (i_owedNow : Int32) (i_slidInto : Int32) (i_undoMany : Int32) (i_bestLength : Int32) (i_setOff : Int32) (i_letLie : Int32) (i_trackMany : Int32) (i_came : Int32) (a_read : Nat → Int32) : va_W := [(q0, .inr (12, [.ref q0_now, .int i_houses, .ref q0_hold, .ref q0_below, .ref q0_hay, .ref q0_weather, .int i_weatherMany, .ref q0_text, .int i_typed, .ref q0_row, .int i_rowMany, .int i_thrown, .ref q0_read, .int i_length, .int i_top, .int i_at, .int i_wrong, .ref q0_comes, .ref q0_rule, .int i_ruleSize, .int i_isAsked, .int i_askedInches, .int i_askedPath, .int i_askedDay, .int i_askedRoof, .int i_askedBelow, .int i_askedLoose, .int i_slidesMany, .int i_owedNow, .ref q0_owedBy, .int i_slidInto, .ref q0_undos, .int i_undoMany, .ref q0_aside, .ref q0_acts, .ref q0_ring, .ref q0_bestRing, .int i_bestLength, .ref q0_nets, .ref q0_worked, .ref q0_then, .ref q0_plan, .ref q0_bestPlan, .ref q0_tried, .int i_setOff, .int i_letLie, .ref q0_tracks, .int i_trackMany, .int i_came, .ref q0_kept, .ref q0_isKept, .ref q0_keptCame])), (q0_read, .inl (E.2.2.1, n_read, .inl a_read))]
set_option maxHeartbeats 4000000 in
set_option maxRecDepth 20000 in
theorem kX12_need (l : Launch) (E : ENV) (q0 : Nat) (q0_now : Nat) (q0_hold : Nat) (q0_below : Nat) (q0_hay : Nat) (q0_weather : Nat) (q0_text : Nat) (q0_row : Nat) (q0_read : Nat) (q0_comes : Nat) (q0_rule : Nat) (q0_owedBy : Nat) (q0_undos : Nat) (q0_aside : Nat) (q0_acts : Nat) (q0_ring : Nat) (q0_bestRing : Nat) (q0_nets : Nat) (q0_worked : Nat) (q0_then : Nat) (q0_plan : Nat) (q0_bestPlan : Nat) (q0_tried : Nat) (q0_tracks : Nat) (q0_kept : Nat) (q0_isKept : Nat) (q0_keptCame : Nat) (n_read : Nat) (i_houses : Int32) (i_weatherMany : Int32) (i_typed : Int32) (i_rowMany : Int32) (i_thrown : Int32) (i_length : Int32) (i_top : Int32) (i_at : Int32) (i_wrong : Int32) (i_ruleSize : Int32) (i_isAsked : Int32) (i_askedInches : Int32) (i_askedPath : Int32) (i_askedDay : Int32) (i_askedRoof : Int32) (i_askedBelow : Int32) (i_askedLoose : Int32) (i_slidesMany : Int32) (i_owedNow : Int32) (i_slidInto : Int32) (i_undoMany : Int32) (i_bestLength : Int32) (i_setOff : Int32) (i_letLie : Int32) (i_trackMany : Int32) (i_came : Int32) (a_read : Nat → Int32) (p1 : Int32) (i_at9 : Int32) (i_wrong9 : Int32) (hf : fX12_need n_read i_length i_top i_at i_wrong a_read p1 = some (i_at9, i_wrong9)) : CV l E yX12_need cX12_need 2 2 [.ref q0, .int p1] (WX12_need E q0 q0_now q0_hold q0_below q0_hay q0_weather q0_text q0_row q0_read q0_comes q0_rule q0_owedBy q0_undos q0_aside q0_acts q0_ring q0_bestRing q0_nets q0_worked q0_then q0_plan q0_bestPlan q0_tried q0_tracks q0_kept q0_isKept q0_keptCame n_read i_houses i_weatherMany i_typed i_rowMany i_thrown i_length i_top i_at i_wrong i_ruleSize i_isAsked i_askedInches i_askedPath i_askedDay i_askedRoof i_askedBelow i_askedLoose i_slidesMany i_owedNow i_slidInto i_undoMany i_bestLength i_setOff i_letLie i_trackMany i_came a_read) (WX12_need E q0 q0_now q0_hold q0_below q0_hay q0_weather q0_text q0_row q0_read q0_comes q0_rule q0_owedBy q0_undos q0_aside q0_acts q0_ring q0_bestRing q0_nets q0_worked q0_then q0_plan q0_bestPlan q0_tried q0_tracks q0_kept q0_isKept q0_keptCame n_read i_houses i_weatherMany i_typed i_rowMany i_thrown i_length i_top i_at9 i_wrong9 i_ruleSize i_isAsked i_askedInches i_askedPath i_askedDay i_askedRoof i_askedBelow i_askedLoose i_slidesMany i_owedNow i_slidInto i_undoMany i_bestLength i_setOff i_letLie i_trackMany i_came a_read) := by
  refine begV (by decide +kernel) (Nat.le_of_ble_eq_true rfl) ?_
  intro p e s m args below meth c A Q C hA hret
  have hx := C.1
  have hb := C.2.1
  intro H locs ls hl hP hD hS
  have hl : lv_has ls 2 [(0, .ref q0), (1, .int p1)] := hl
  unfold fX12_need at hf
  refine lv_aload_n hx hb dX12_need_0 rfl (lv_at hl 0 rfl) ?_
  refine lv_iload_n hx hb dX12_need_1 rfl (lv_at hl 1 rfl) ?_
  obtain ⟨o1, hg2, hf⟩ := bd_some hf
  refine k_VI (As := [.int p1]) C K_RX12_131 (Nat.le_of_ble_eq_true rfl) (Nat.le_of_ble_eq_true rfl) (kX12_passes l E q0 q0_now q0_hold q0_below q0_hay q0_weather q0_text q0_row q0_read q0_comes q0_rule q0_owedBy q0_undos q0_aside q0_acts q0_ring q0_bestRing q0_nets q0_worked q0_then q0_plan q0_bestPlan q0_tried q0_tracks q0_kept q0_isKept q0_keptCame n_read i_houses i_weatherMany i_typed i_rowMany i_thrown i_length i_top i_at i_wrong i_ruleSize i_isAsked i_askedInches i_askedPath i_askedDay i_askedRoof i_askedBelow i_askedLoose i_slidesMany i_owedNow i_slidInto i_undoMany i_bestLength i_setOff i_letLie i_trackMany i_came a_read p1 o1.1 o1.2 hg2) [0, 1] rfl rfl rfl (ci := 12) rfl rfl (q0 := 0) rfl hP hD hS hA hl.1 (Nat.le_of_ble_eq_true rfl) rfl dX12_need_2 (fun H locs hP hD hS => ?_)
  have hP : va_P E.1 classes (WX12_need E q0 q0_now q0_hold q0_below q0_hay q0_weather q0_text q0_row q0_read q0_comes q0_rule q0_owedBy q0_undos q0_aside q0_acts q0_ring q0_bestRing q0_nets q0_worked q0_then q0_plan q0_bestPlan q0_tried q0_tracks q0_kept q0_isKept q0_keptCame n_read i_houses i_weatherMany i_typed i_rowMany i_thrown i_length i_top o1.2 i_wrong i_ruleSize i_isAsked i_askedInches i_askedPath i_askedDay i_askedRoof i_askedBelow i_askedLoose i_slidesMany i_owedNow i_slidInto i_undoMany i_bestLength i_setOff i_letLie i_trackMany i_came a_read) H := hP
  have hD : va_D A (WX12_need E q0 q0_now q0_hold q0_below q0_hay q0_weather q0_text q0_row q0_read q0_comes q0_rule q0_owedBy q0_undos q0_aside q0_acts q0_ring q0_bestRing q0_nets q0_worked q0_then q0_plan q0_bestPlan q0_tried q0_tracks q0_kept q0_isKept q0_keptCame n_read i_houses i_weatherMany i_typed i_rowMany i_thrown i_length i_top o1.2 i_wrong i_ruleSize i_isAsked i_askedInches i_askedPath i_askedDay i_askedRoof i_askedBelow i_askedLoose i_slidesMany i_owedNow i_slidInto i_undoMany i_bestLength i_setOff i_letLie i_trackMany i_came a_read) := hD
  refine lv_if_ne (tgt := 16) hx hb dX12_need_5 (by decide) (fun c3 => ?_) (fun c3 => ?_)
  · rw [if_neg c3] at hf
    have hj0 := Option.some.inj hf
    obtain ⟨ha0, hj1⟩ := Prod.mk.inj hj0
    subst ha0
    subst hj1
    exact hret _ _ _ _ dX12_need_16 hP hD hS
  · rw [if_pos c3] at hf
    refine lv_aload_n hx hb dX12_need_8 rfl (lv_at hl 0 rfl) ?_
    refine lv_aload_n hx hb dX12_need_9 rfl (lv_at hl 0 rfl) ?_
    refine gf_RX12_117 C hP 0 rfl rfl dX12_need_10 ?_
    obtain ⟨o4, hg5, hf⟩ := bd_some hf
    refine k_VV (As := [.int o1.2]) C K_RX12_135 (Nat.le_of_ble_eq_true rfl) (Nat.le_of_ble_eq_true rfl) (kX12_fault l E q0 q0_now q0_hold q0_below q0_hay q0_weather q0_text q0_row q0_comes q0_rule q0_owedBy q0_undos q0_aside q0_acts q0_ring q0_bestRing q0_nets q0_worked q0_then q0_plan q0_bestPlan q0_tried q0_tracks q0_kept q0_isKept q0_keptCame i_houses i_weatherMany i_typed i_rowMany i_thrown ((.ref q0_read)) i_length i_top o1.2 i_wrong i_ruleSize i_isAsked i_askedInches i_askedPath i_askedDay i_askedRoof i_askedBelow i_askedLoose i_slidesMany i_owedNow i_slidInto i_undoMany i_bestLength i_setOff i_letLie i_trackMany i_came o1.2 o4 hg5) [0] rfl rfl rfl (ci := 12) rfl rfl (q0 := 0) rfl hP hD hS hA hl.1 (Nat.le_of_ble_eq_true rfl) rfl dX12_need_13 (fun H locs hP hD hS => ?_)
    have hP : va_P E.1 classes (WX12_need E q0 q0_now q0_hold q0_below q0_hay q0_weather q0_text q0_row q0_read q0_comes q0_rule q0_owedBy q0_undos q0_aside q0_acts q0_ring q0_bestRing q0_nets q0_worked q0_then q0_plan q0_bestPlan q0_tried q0_tracks q0_kept q0_isKept q0_keptCame n_read i_houses i_weatherMany i_typed i_rowMany i_thrown i_length i_top o1.2 o4 i_ruleSize i_isAsked i_askedInches i_askedPath i_askedDay i_askedRoof i_askedBelow i_askedLoose i_slidesMany i_owedNow i_slidInto i_undoMany i_bestLength i_setOff i_letLie i_trackMany i_came a_read) H := hP
    have hD : va_D A (WX12_need E q0 q0_now q0_hold q0_below q0_hay q0_weather q0_text q0_row q0_read q0_comes q0_rule q0_owedBy q0_undos q0_aside q0_acts q0_ring q0_bestRing q0_nets q0_worked q0_then q0_plan q0_bestPlan q0_tried q0_tracks q0_kept q0_isKept q0_keptCame n_read i_houses i_weatherMany i_typed i_rowMany i_thrown i_length i_top o1.2 o4 i_ruleSize i_isAsked i_askedInches i_askedPath i_askedDay i_askedRoof i_askedBelow i_askedLoose i_slidesMany i_owedNow i_slidInto i_undoMany i_bestLength i_setOff i_letLie i_trackMany i_came a_read) := hD
    have hj0 := Option.some.inj hf
    obtain ⟨ha0, hj1⟩ := Prod.mk.inj hj0
    subst ha0
    subst hj1
    exact hret _ _ _ _ dX12_need_16 hP hD hS
theorem dX12_number_0 : decode cX12_number 0 = .ok (.aload_n 0, 1) := by decide +kernel
theorem dX12_number_1 : decode cX12_number 1 = .ok (.invokevirtual 123, 3) := by decide +kernel
theorem dX12_number_4 : decode cX12_number 4 = .ok (.ifCond .ne 5, 3) := by decide +kernel
theorem dX12_number_7 : decode cX12_number 7 = .ok (.iconst 0, 1) := by decide +kernel
theorem dX12_number_8 : decode cX12_number 8 = .ok (.ireturn, 1) := by decide +kernel
theorem dX12_number_9 : decode cX12_number 9 = .ok (.aload_n 0, 1) := by decide +kernel
theorem dX12_number_10 : decode cX12_number 10 = .ok (.getfield 117, 3) := by decide +kernel
theorem dX12_number_13 : decode cX12_number 13 = .ok (.istore 4, 2) := by decide +kernel
theorem dX12_number_15 : decode cX12_number 15 = .ok (.iconst 0, 1) := by decide +kernel
theorem dX12_number_16 : decode cX12_number 16 = .ok (.istore 5, 2) := by decide +kernel
theorem dX12_number_18 : decode cX12_number 18 = .ok (.aload_n 0, 1) := by decide +kernel
theorem dX12_number_19 : decode cX12_number 19 = .ok (.getfield 117, 3) := by decide +kernel
theorem dX12_number_22 : decode cX12_number 22 = .ok (.iload 4, 2) := by decide +kernel
theorem dX12_number_24 : decode cX12_number 24 = .ok (.iload_n 1, 1) := by decide +kernel
theorem dX12_number_25 : decode cX12_number 25 = .ok (.iadd, 1) := by decide +kernel
theorem dX12_number_26 : decode cX12_number 26 = .ok (.if_icmp .ge 45, 3) := by decide +kernel
theorem dX12_number_29 : decode cX12_number 29 = .ok (.aload_n 0, 1) := by decide +kernel
theorem dX12_number_30 : decode cX12_number 30 = .ok (.invokevirtual 127, 3) := by decide +kernel
theorem dX12_number_33 : decode cX12_number 33 = .ok (.bipush 48, 2) := by decide +kernel
theorem dX12_number_35 : decode cX12_number 35 = .ok (.bipush 57, 2) := by decide +kernel
theorem dX12_number_37 : decode cX12_number 37 = .ok (.invokestatic 97, 3) := by decide +kernel
theorem dX12_number_40 : decode cX12_number 40 = .ok (.ifCond .eq 31, 3) := by decide +kernel
theorem dX12_number_43 : decode cX12_number 43 = .ok (.bipush 10, 2) := by decide +kernel
theorem dX12_number_45 : decode cX12_number 45 = .ok (.iload 5, 2) := by decide +kernel
theorem dX12_number_47 : decode cX12_number 47 = .ok (.imul, 1) := by decide +kernel
theorem dX12_number_48 : decode cX12_number 48 = .ok (.aload_n 0, 1) := by decide +kernel
theorem dX12_number_49 : decode cX12_number 49 = .ok (.invokevirtual 127, 3) := by decide +kernel
theorem dX12_number_52 : decode cX12_number 52 = .ok (.iadd, 1) := by decide +kernel
theorem dX12_number_53 : decode cX12_number 53 = .ok (.bipush 48, 2) := by decide +kernel
theorem dX12_number_55 : decode cX12_number 55 = .ok (.isub, 1) := by decide +kernel
theorem dX12_number_56 : decode cX12_number 56 = .ok (.istore 5, 2) := by decide +kernel
theorem dX12_number_58 : decode cX12_number 58 = .ok (.aload_n 0, 1) := by decide +kernel
theorem dX12_number_59 : decode cX12_number 59 = .ok (.dup, 1) := by decide +kernel
theorem dX12_number_60 : decode cX12_number 60 = .ok (.getfield 117, 3) := by decide +kernel
theorem dX12_number_63 : decode cX12_number 63 = .ok (.iconst 1, 1) := by decide +kernel
theorem dX12_number_64 : decode cX12_number 64 = .ok (.iadd, 1) := by decide +kernel
theorem dX12_number_65 : decode cX12_number 65 = .ok (.putfield 117, 3) := by decide +kernel
theorem dX12_number_68 : decode cX12_number 68 = .ok (.goto (-50), 3) := by decide +kernel
theorem dX12_number_71 : decode cX12_number 71 = .ok (.aload_n 0, 1) := by decide +kernel
theorem dX12_number_72 : decode cX12_number 72 = .ok (.getfield 117, 3) := by decide +kernel
theorem dX12_number_75 : decode cX12_number 75 = .ok (.iload 4, 2) := by decide +kernel
theorem dX12_number_77 : decode cX12_number 77 = .ok (.if_icmp .ne 14, 3) := by decide +kernel
theorem dX12_number_80 : decode cX12_number 80 = .ok (.aload_n 0, 1) := by decide +kernel
theorem dX12_number_81 : decode cX12_number 81 = .ok (.aload_n 0, 1) := by decide +kernel
theorem dX12_number_82 : decode cX12_number 82 = .ok (.getfield 117, 3) := by decide +kernel
theorem dX12_number_85 : decode cX12_number 85 = .ok (.invokevirtual 135, 3) := by decide +kernel
theorem dX12_number_88 : decode cX12_number 88 = .ok (.goto 23, 3) := by decide +kernel
theorem dX12_number_91 : decode cX12_number 91 = .ok (.iload 5, 2) := by decide +kernel
theorem dX12_number_93 : decode cX12_number 93 = .ok (.iload_n 2, 1) := by decide +kernel
theorem dX12_number_94 : decode cX12_number 94 = .ok (.iload_n 3, 1) := by decide +kernel
theorem dX12_number_95 : decode cX12_number 95 = .ok (.invokestatic 97, 3) := by decide +kernel
theorem dX12_number_98 : decode cX12_number 98 = .ok (.ifCond .ne 13, 3) := by decide +kernel
theorem dX12_number_101 : decode cX12_number 101 = .ok (.aload_n 0, 1) := by decide +kernel
theorem dX12_number_102 : decode cX12_number 102 = .ok (.aload_n 0, 1) := by decide +kernel
theorem dX12_number_103 : decode cX12_number 103 = .ok (.getfield 117, 3) := by decide +kernel
theorem dX12_number_106 : decode cX12_number 106 = .ok (.iconst 1, 1) := by decide +kernel
theorem dX12_number_107 : decode cX12_number 107 = .ok (.isub, 1) := by decide +kernel
theorem dX12_number_108 : decode cX12_number 108 = .ok (.invokevirtual 135, 3) := by decide +kernel
theorem dX12_number_111 : decode cX12_number 111 = .ok (.aload_n 0, 1) := by decide +kernel
theorem dX12_number_112 : decode cX12_number 112 = .ok (.invokevirtual 123, 3) := by decide +kernel
theorem dX12_number_115 : decode cX12_number 115 = .ok (.ifCond .eq 8, 3) := by decide +kernel
theorem dX12_number_118 : decode cX12_number 118 = .ok (.iload 5, 2) := by decide +kernel
theorem dX12_number_120 : decode cX12_number 120 = .ok (.goto 4, 3) := by decide +kernel
theorem dX12_number_123 : decode cX12_number 123 = .ok (.iconst 0, 1) := by decide +kernel
theorem dX12_number_124 : decode cX12_number 124 = .ok (.ireturn, 1) := by decide +kernel
def WX12_number (E : ENV) (q0 : Nat) (q0_now : Nat) (q0_hold : Nat) (q0_below : Nat) (q0_hay : Nat) (q0_weather : Nat) (q0_text : Nat) (q0_row : Nat) (q0_read : Nat) (q0_comes : Nat) (q0_rule : Nat) (q0_owedBy : Nat) (q0_undos : Nat) (q0_aside : Nat) (q0_acts : Nat) (q0_ring : Nat) (q0_bestRing : Nat) (q0_nets : Nat) (q0_worked : Nat) (q0_then : Nat) (q0_plan : Nat) (q0_bestPlan : Nat) (q0_tried : Nat) (q0_tracks : Nat) (q0_kept : Nat) (q0_isKept : Nat) (q0_keptCame : Nat) (n_read : Nat) (i_houses : Int32) (i_weatherMany : Int32) (i_typed : Int32) (i_rowMany : Int32) (i_thrown : Int32) (i_length : Int32) (i_top : Int32) (i_at : Int32) (i_wrong : Int32) (i_ruleSize : Int32) (i_isAsked : Int32) (i_askedInches : Int32) (i_askedPath : Int32) (i_askedDay : Int32) (i_askedRoof : Int32) (i_askedBelow : Int32) (i_askedLoose : Int32) (i_slidesMany : Int32) (i_owedNow : Int32) (i_slidInto : Int32) (i_undoMany : Int32) (i_bestLength : Int32) (i_setOff : Int32) (i_letLie : Int32) (i_trackMany : Int32) (i_came : Int32) (a_read : Nat → Int32) : va_W := [(q0, .inr (12, [.ref q0_now, .int i_houses, .ref q0_hold, .ref q0_below, .ref q0_hay, .ref q0_weather, .int i_weatherMany, .ref q0_text, .int i_typed, .ref q0_row, .int i_rowMany, .int i_thrown, .ref q0_read, .int i_length, .int i_top, .int i_at, .int i_wrong, .ref q0_comes, .ref q0_rule, .int i_ruleSize, .int i_isAsked, .int i_askedInches, .int i_askedPath, .int i_askedDay, .int i_askedRoof, .int i_askedBelow, .int i_askedLoose, .int i_slidesMany, .int i_owedNow, .ref q0_owedBy, .int i_slidInto, .ref q0_undos, .int i_undoMany, .ref q0_aside, .ref q0_acts, .ref q0_ring, .ref q0_bestRing, .int i_bestLength, .ref q0_nets, .ref q0_worked, .ref q0_then, .ref q0_plan, .ref q0_bestPlan, .ref q0_tried, .int i_setOff, .int i_letLie, .ref q0_tracks, .int i_trackMany, .int i_came, .ref q0_kept, .ref q0_isKept, .ref q0_keptCame])), (q0_read, .inl (E.2.2.1, n_read, .inl a_read))]
set_option maxHeartbeats 4000000 in
set_option maxRecDepth 20000 in
theorem kX12_number (l : Launch) (E : ENV) (q0 : Nat) (q0_now : Nat) (q0_hold : Nat) (q0_below : Nat) (q0_hay : Nat) (q0_weather : Nat) (q0_text : Nat) (q0_row : Nat) (q0_read : Nat) (q0_comes : Nat) (q0_rule : Nat) (q0_owedBy : Nat) (q0_undos : Nat) (q0_aside : Nat) (q0_acts : Nat) (q0_ring : Nat) (q0_bestRing : Nat) (q0_nets : Nat) (q0_worked : Nat) (q0_then : Nat) (q0_plan : Nat) (q0_bestPlan : Nat) (q0_tried : Nat) (q0_tracks : Nat) (q0_kept : Nat) (q0_isKept : Nat) (q0_keptCame : Nat) (n_read : Nat) (i_houses : Int32) (i_weatherMany : Int32) (i_typed : Int32) (i_rowMany : Int32) (i_thrown : Int32) (i_length : Int32) (i_top : Int32) (i_at : Int32) (i_wrong : Int32) (i_ruleSize : Int32) (i_isAsked : Int32) (i_askedInches : Int32) (i_askedPath : Int32) (i_askedDay : Int32) (i_askedRoof : Int32) (i_askedBelow : Int32) (i_askedLoose : Int32) (i_slidesMany : Int32) (i_owedNow : Int32) (i_slidInto : Int32) (i_undoMany : Int32) (i_bestLength : Int32) (i_setOff : Int32) (i_letLie : Int32) (i_trackMany : Int32) (i_came : Int32) (a_read : Nat → Int32) (p1 : Int32) (p2 : Int32) (p3 : Int32) (r9 : Int32) (i_at9 : Int32) (i_wrong9 : Int32) (hf : fX12_number n_read i_length i_top i_at i_wrong a_read p1 p2 p3 = some (r9, i_at9, i_wrong9)) : CI l E yX12_number cX12_number 6 (some .int) 2 [.ref q0, .int p1, .int p2, .int p3] (WX12_number E q0 q0_now q0_hold q0_below q0_hay q0_weather q0_text q0_row q0_read q0_comes q0_rule q0_owedBy q0_undos q0_aside q0_acts q0_ring q0_bestRing q0_nets q0_worked q0_then q0_plan q0_bestPlan q0_tried q0_tracks q0_kept q0_isKept q0_keptCame n_read i_houses i_weatherMany i_typed i_rowMany i_thrown i_length i_top i_at i_wrong i_ruleSize i_isAsked i_askedInches i_askedPath i_askedDay i_askedRoof i_askedBelow i_askedLoose i_slidesMany i_owedNow i_slidInto i_undoMany i_bestLength i_setOff i_letLie i_trackMany i_came a_read) (WX12_number E q0 q0_now q0_hold q0_below q0_hay q0_weather q0_text q0_row q0_read q0_comes q0_rule q0_owedBy q0_undos q0_aside q0_acts q0_ring q0_bestRing q0_nets q0_worked q0_then q0_plan q0_bestPlan q0_tried q0_tracks q0_kept q0_isKept q0_keptCame n_read i_houses i_weatherMany i_typed i_rowMany i_thrown i_length i_top i_at9 i_wrong9 i_ruleSize i_isAsked i_askedInches i_askedPath i_askedDay i_askedRoof i_askedBelow i_askedLoose i_slidesMany i_owedNow i_slidInto i_undoMany i_bestLength i_setOff i_letLie i_trackMany i_came a_read) r9 := by
  refine begI (by decide +kernel) (Nat.le_of_ble_eq_true rfl) ?_
  intro p e s m args below meth c A Q C hA hret
  have hx := C.1
  have hb := C.2.1
  have L18 : ∀ (v4 : Int32) (i_wrong : Int32), ∀ (n : Nat) (v5 : Int32) (i_at : Int32) (o : Int32 × Int32), fX12_number_L18 n_read i_length i_top a_read p1 v4 n v5 i_at = some o → (GO p l e 2 s m args below meth c Q E A 6 71 [] [(0, .ref q0), (2, .int p2), (3, .int p3), (4, .int v4), (5, .int o.1)] (WX12_number E q0 q0_now q0_hold q0_below q0_hay q0_weather q0_text q0_row q0_read q0_comes q0_rule q0_owedBy q0_undos q0_aside q0_acts q0_ring q0_bestRing q0_nets q0_worked q0_then q0_plan q0_bestPlan q0_tried q0_tracks q0_kept q0_isKept q0_keptCame n_read i_houses i_weatherMany i_typed i_rowMany i_thrown i_length i_top o.2 i_wrong i_ruleSize i_isAsked i_askedInches i_askedPath i_askedDay i_askedRoof i_askedBelow i_askedLoose i_slidesMany i_owedNow i_slidInto i_undoMany i_bestLength i_setOff i_letLie i_trackMany i_came a_read)) → GO p l e 2 s m args below meth c Q E A 6 18 [] [(0, .ref q0), (1, .int p1), (2, .int p2), (3, .int p3), (4, .int v4), (5, .int v5)] (WX12_number E q0 q0_now q0_hold q0_below q0_hay q0_weather q0_text q0_row q0_read q0_comes q0_rule q0_owedBy q0_undos q0_aside q0_acts q0_ring q0_bestRing q0_nets q0_worked q0_then q0_plan q0_bestPlan q0_tried q0_tracks q0_kept q0_isKept q0_keptCame n_read i_houses i_weatherMany i_typed i_rowMany i_thrown i_length i_top i_at i_wrong i_ruleSize i_isAsked i_askedInches i_askedPath i_askedDay i_askedRoof i_askedBelow i_askedLoose i_slidesMany i_owedNow i_slidInto i_undoMany i_bestLength i_setOff i_letLie i_trackMany i_came a_read) := by
    intro v4 i_wrong
    intro n
    induction n with
    | zero =>
      intro v5 i_at o hf
      have hf : none = some o := hf
      cases hf
    | succ n ih =>
      intro v5 i_at o hf hE
      intro H locs ls hl hP hD hS
      rw [fX12_number_L18] at hf
      refine lv_aload_n hx hb dX12_number_18 rfl (lv_at hl 0 rfl) ?_
      refine gf_RX12_117 C hP 0 rfl rfl dX12_number_19 ?_
      refine lv_iload hx hb dX12_number_22 (lv_at hl 4 rfl) ?_
      refine lv_iload_n hx hb dX12_number_24 rfl (lv_at hl 1 rfl) ?_
      refine lv_iadd hx hb dX12_number_25 ?_
      refine lv_icmp_ge (tgt := 71) hx hb dX12_number_26 (by decide) (fun c4 => ?_) (fun c4 => ?_)
      · rw [if_pos c4] at hf
        have hf := Option.some.inj hf
        subst hf
        exact hE _ _ _ (lv_sub hl [0, 2, 3, 4, 5] rfl) hP hD hS
      · rw [if_neg c4] at hf
        refine lv_aload_n hx hb dX12_number_29 rfl (lv_at hl 0 rfl) ?_
        obtain ⟨o5, hg6, hf⟩ := bd_some hf
        refine k_VI (As := []) C K_RX12_127 (Nat.le_of_ble_eq_true rfl) (Nat.le_of_ble_eq_true rfl) (kX12_here l E q0 q0_now q0_hold q0_below q0_hay q0_weather q0_text q0_row q0_read q0_comes q0_rule q0_owedBy q0_undos q0_aside q0_acts q0_ring q0_bestRing q0_nets q0_worked q0_then q0_plan q0_bestPlan q0_tried q0_tracks q0_kept q0_isKept q0_keptCame n_read i_houses i_weatherMany i_typed i_rowMany i_thrown i_length i_top i_at i_wrong i_ruleSize i_isAsked i_askedInches i_askedPath i_askedDay i_askedRoof i_askedBelow i_askedLoose i_slidesMany i_owedNow i_slidInto i_undoMany i_bestLength i_setOff i_letLie i_trackMany i_came a_read o5 hg6) [0, 1] rfl rfl rfl (ci := 12) rfl rfl (q0 := 0) rfl hP hD hS hA hl.1 (Nat.le_of_ble_eq_true rfl) rfl dX12_number_30 (fun H locs hP hD hS => ?_)
        have hP : va_P E.1 classes (WX12_number E q0 q0_now q0_hold q0_below q0_hay q0_weather q0_text q0_row q0_read q0_comes q0_rule q0_owedBy q0_undos q0_aside q0_acts q0_ring q0_bestRing q0_nets q0_worked q0_then q0_plan q0_bestPlan q0_tried q0_tracks q0_kept q0_isKept q0_keptCame n_read i_houses i_weatherMany i_typed i_rowMany i_thrown i_length i_top i_at i_wrong i_ruleSize i_isAsked i_askedInches i_askedPath i_askedDay i_askedRoof i_askedBelow i_askedLoose i_slidesMany i_owedNow i_slidInto i_undoMany i_bestLength i_setOff i_letLie i_trackMany i_came a_read) H := hP
        have hD : va_D A (WX12_number E q0 q0_now q0_hold q0_below q0_hay q0_weather q0_text q0_row q0_read q0_comes q0_rule q0_owedBy q0_undos q0_aside q0_acts q0_ring q0_bestRing q0_nets q0_worked q0_then q0_plan q0_bestPlan q0_tried q0_tracks q0_kept q0_isKept q0_keptCame n_read i_houses i_weatherMany i_typed i_rowMany i_thrown i_length i_top i_at i_wrong i_ruleSize i_isAsked i_askedInches i_askedPath i_askedDay i_askedRoof i_askedBelow i_askedLoose i_slidesMany i_owedNow i_slidInto i_undoMany i_bestLength i_setOff i_letLie i_trackMany i_came a_read) := hD
        refine lv_bipush (v := 48) hx hb dX12_number_33 (by decide) ?_
        refine lv_bipush (v := 57) hx hb dX12_number_35 (by decide) ?_
        obtain ⟨o7, hg8, hf⟩ := bd_some hf
        refine k_SI (As := [.int o5, .int 48, .int 57]) C K_RX12_97 (Nat.le_of_ble_eq_true rfl) (Nat.le_of_ble_eq_true rfl) (kX12_in l E o5 48 57 o7 hg8) [] rfl rfl rfl  hP hD hS hA hl.1 (Nat.le_of_ble_eq_true rfl) rfl dX12_number_37 (fun H locs hP hD hS => ?_)
        have hP : va_P E.1 classes (WX12_number E q0 q0_now q0_hold q0_below q0_hay q0_weather q0_text q0_row q0_read q0_comes q0_rule q0_owedBy q0_undos q0_aside q0_acts q0_ring q0_bestRing q0_nets q0_worked q0_then q0_plan q0_bestPlan q0_tried q0_tracks q0_kept q0_isKept q0_keptCame n_read i_houses i_weatherMany i_typed i_rowMany i_thrown i_length i_top i_at i_wrong i_ruleSize i_isAsked i_askedInches i_askedPath i_askedDay i_askedRoof i_askedBelow i_askedLoose i_slidesMany i_owedNow i_slidInto i_undoMany i_bestLength i_setOff i_letLie i_trackMany i_came a_read) H := hP
        have hD : va_D A (WX12_number E q0 q0_now q0_hold q0_below q0_hay q0_weather q0_text q0_row q0_read q0_comes q0_rule q0_owedBy q0_undos q0_aside q0_acts q0_ring q0_bestRing q0_nets q0_worked q0_then q0_plan q0_bestPlan q0_tried q0_tracks q0_kept q0_isKept q0_keptCame n_read i_houses i_weatherMany i_typed i_rowMany i_thrown i_length i_top i_at i_wrong i_ruleSize i_isAsked i_askedInches i_askedPath i_askedDay i_askedRoof i_askedBelow i_askedLoose i_slidesMany i_owedNow i_slidInto i_undoMany i_bestLength i_setOff i_letLie i_trackMany i_came a_read) := hD
        refine lv_if_eq (tgt := 71) hx hb dX12_number_40 (by decide) (fun c9 => ?_) (fun c9 => ?_)
        · rw [if_pos c9] at hf
          have hf := Option.some.inj hf
          subst hf
          exact hE _ _ _ (lv_sub hl [0, 2, 3, 4, 5] rfl) hP hD hS
        · rw [if_neg c9] at hf
          refine lv_bipush (v := 10) hx hb dX12_number_43 (by decide) ?_
          refine lv_iload hx hb dX12_number_45 (lv_at hl 5 rfl) ?_
          refine lv_imul hx hb dX12_number_47 ?_
          refine lv_aload_n hx hb dX12_number_48 rfl (lv_at hl 0 rfl) ?_
          obtain ⟨o10, hg11, hf⟩ := bd_some hf
          refine k_VI (As := []) C K_RX12_127 (Nat.le_of_ble_eq_true rfl) (Nat.le_of_ble_eq_true rfl) (kX12_here l E q0 q0_now q0_hold q0_below q0_hay q0_weather q0_text q0_row q0_read q0_comes q0_rule q0_owedBy q0_undos q0_aside q0_acts q0_ring q0_bestRing q0_nets q0_worked q0_then q0_plan q0_bestPlan q0_tried q0_tracks q0_kept q0_isKept q0_keptCame n_read i_houses i_weatherMany i_typed i_rowMany i_thrown i_length i_top i_at i_wrong i_ruleSize i_isAsked i_askedInches i_askedPath i_askedDay i_askedRoof i_askedBelow i_askedLoose i_slidesMany i_owedNow i_slidInto i_undoMany i_bestLength i_setOff i_letLie i_trackMany i_came a_read o10 hg11) [0, 1] rfl rfl rfl (ci := 12) rfl rfl (q0 := 0) rfl hP hD hS hA hl.1 (Nat.le_of_ble_eq_true rfl) rfl dX12_number_49 (fun H locs hP hD hS => ?_)
          have hP : va_P E.1 classes (WX12_number E q0 q0_now q0_hold q0_below q0_hay q0_weather q0_text q0_row q0_read q0_comes q0_rule q0_owedBy q0_undos q0_aside q0_acts q0_ring q0_bestRing q0_nets q0_worked q0_then q0_plan q0_bestPlan q0_tried q0_tracks q0_kept q0_isKept q0_keptCame n_read i_houses i_weatherMany i_typed i_rowMany i_thrown i_length i_top i_at i_wrong i_ruleSize i_isAsked i_askedInches i_askedPath i_askedDay i_askedRoof i_askedBelow i_askedLoose i_slidesMany i_owedNow i_slidInto i_undoMany i_bestLength i_setOff i_letLie i_trackMany i_came a_read) H := hP
          have hD : va_D A (WX12_number E q0 q0_now q0_hold q0_below q0_hay q0_weather q0_text q0_row q0_read q0_comes q0_rule q0_owedBy q0_undos q0_aside q0_acts q0_ring q0_bestRing q0_nets q0_worked q0_then q0_plan q0_bestPlan q0_tried q0_tracks q0_kept q0_isKept q0_keptCame n_read i_houses i_weatherMany i_typed i_rowMany i_thrown i_length i_top i_at i_wrong i_ruleSize i_isAsked i_askedInches i_askedPath i_askedDay i_askedRoof i_askedBelow i_askedLoose i_slidesMany i_owedNow i_slidInto i_undoMany i_bestLength i_setOff i_letLie i_trackMany i_came a_read) := hD
          refine lv_iadd hx hb dX12_number_52 ?_
          refine lv_bipush (v := 48) hx hb dX12_number_53 (by decide) ?_
          refine lv_isub hx hb dX12_number_55 ?_
          refine lv_istore (lv' := [(5, .int ((((((10 * v5)) + o10)) - 48))), (0, .ref q0), (1, .int p1), (2, .int p2), (3, .int p3), (4, .int v4)]) hx hb dX12_number_56 hl (by decide) rfl (fun ls hl => ?_)
          refine lv_aload_n hx hb dX12_number_58 rfl (lv_at hl 1 rfl) ?_
          refine lv_dup hx hb dX12_number_59 rfl ?_
          refine gf_RX12_117 C hP 0 rfl rfl dX12_number_60 ?_
          refine lv_iconst (v := 1) hx hb dX12_number_63 (by decide) ?_
          refine lv_iadd hx hb dX12_number_64 ?_
          refine pf_RX12_117 C hP hD hS 0 rfl (Nat.le_of_ble_eq_true rfl) dX12_number_65 (fun H locs hP hD hS => ?_)
          have hP : va_P E.1 classes (WX12_number E q0 q0_now q0_hold q0_below q0_hay q0_weather q0_text q0_row q0_read q0_comes q0_rule q0_owedBy q0_undos q0_aside q0_acts q0_ring q0_bestRing q0_nets q0_worked q0_then q0_plan q0_bestPlan q0_tried q0_tracks q0_kept q0_isKept q0_keptCame n_read i_houses i_weatherMany i_typed i_rowMany i_thrown i_length i_top ((i_at + 1)) i_wrong i_ruleSize i_isAsked i_askedInches i_askedPath i_askedDay i_askedRoof i_askedBelow i_askedLoose i_slidesMany i_owedNow i_slidInto i_undoMany i_bestLength i_setOff i_letLie i_trackMany i_came a_read) H := hP
          have hD : va_D A (WX12_number E q0 q0_now q0_hold q0_below q0_hay q0_weather q0_text q0_row q0_read q0_comes q0_rule q0_owedBy q0_undos q0_aside q0_acts q0_ring q0_bestRing q0_nets q0_worked q0_then q0_plan q0_bestPlan q0_tried q0_tracks q0_kept q0_isKept q0_keptCame n_read i_houses i_weatherMany i_typed i_rowMany i_thrown i_length i_top ((i_at + 1)) i_wrong i_ruleSize i_isAsked i_askedInches i_askedPath i_askedDay i_askedRoof i_askedBelow i_askedLoose i_slidesMany i_owedNow i_slidInto i_undoMany i_bestLength i_setOff i_letLie i_trackMany i_came a_read) := hD
          refine lv_goto (tgt := 18) hx hb dX12_number_68 (by decide) ?_
          exact ih ((((((10 * v5)) + o10)) - 48)) ((i_at + 1)) _ hf hE _ _ _ (lv_sub hl [1, 2, 3, 4, 5, 0] rfl) hP hD hS
  have J111 : ∀ (v5 : Int32) (i_at : Int32) (i_wrong : Int32), fX12_number_J111 v5 i_at i_wrong = some (r9, i_at9, i_wrong9) → GO p l e 2 s m args below meth c Q E A 6 111 [] [(0, .ref q0), (5, .int v5)] (WX12_number E q0 q0_now q0_hold q0_below q0_hay q0_weather q0_text q0_row q0_read q0_comes q0_rule q0_owedBy q0_undos q0_aside q0_acts q0_ring q0_bestRing q0_nets q0_worked q0_then q0_plan q0_bestPlan q0_tried q0_tracks q0_kept q0_isKept q0_keptCame n_read i_houses i_weatherMany i_typed i_rowMany i_thrown i_length i_top i_at i_wrong i_ruleSize i_isAsked i_askedInches i_askedPath i_askedDay i_askedRoof i_askedBelow i_askedLoose i_slidesMany i_owedNow i_slidInto i_undoMany i_bestLength i_setOff i_letLie i_trackMany i_came a_read) := by
    intro v5 i_at i_wrong hf H locs ls hl hP hD hS
    unfold fX12_number_J111 at hf
    refine lv_aload_n hx hb dX12_number_111 rfl (lv_at hl 0 rfl) ?_
    obtain ⟨o18, hg19, hf⟩ := bd_some hf
    refine k_VI (As := []) C K_RX12_123 (Nat.le_of_ble_eq_true rfl) (Nat.le_of_ble_eq_true rfl) (kX12_fine l E q0 q0_now q0_hold q0_below q0_hay q0_weather q0_text q0_row q0_comes q0_rule q0_owedBy q0_undos q0_aside q0_acts q0_ring q0_bestRing q0_nets q0_worked q0_then q0_plan q0_bestPlan q0_tried q0_tracks q0_kept q0_isKept q0_keptCame i_houses i_weatherMany i_typed i_rowMany i_thrown ((.ref q0_read)) i_length i_top i_at i_wrong i_ruleSize i_isAsked i_askedInches i_askedPath i_askedDay i_askedRoof i_askedBelow i_askedLoose i_slidesMany i_owedNow i_slidInto i_undoMany i_bestLength i_setOff i_letLie i_trackMany i_came o18 hg19) [0] rfl rfl rfl (ci := 12) rfl rfl (q0 := 0) rfl hP hD hS hA hl.1 (Nat.le_of_ble_eq_true rfl) rfl dX12_number_112 (fun H locs hP hD hS => ?_)
    have hP : va_P E.1 classes (WX12_number E q0 q0_now q0_hold q0_below q0_hay q0_weather q0_text q0_row q0_read q0_comes q0_rule q0_owedBy q0_undos q0_aside q0_acts q0_ring q0_bestRing q0_nets q0_worked q0_then q0_plan q0_bestPlan q0_tried q0_tracks q0_kept q0_isKept q0_keptCame n_read i_houses i_weatherMany i_typed i_rowMany i_thrown i_length i_top i_at i_wrong i_ruleSize i_isAsked i_askedInches i_askedPath i_askedDay i_askedRoof i_askedBelow i_askedLoose i_slidesMany i_owedNow i_slidInto i_undoMany i_bestLength i_setOff i_letLie i_trackMany i_came a_read) H := hP
    have hD : va_D A (WX12_number E q0 q0_now q0_hold q0_below q0_hay q0_weather q0_text q0_row q0_read q0_comes q0_rule q0_owedBy q0_undos q0_aside q0_acts q0_ring q0_bestRing q0_nets q0_worked q0_then q0_plan q0_bestPlan q0_tried q0_tracks q0_kept q0_isKept q0_keptCame n_read i_houses i_weatherMany i_typed i_rowMany i_thrown i_length i_top i_at i_wrong i_ruleSize i_isAsked i_askedInches i_askedPath i_askedDay i_askedRoof i_askedBelow i_askedLoose i_slidesMany i_owedNow i_slidInto i_undoMany i_bestLength i_setOff i_letLie i_trackMany i_came a_read) := hD
    refine lv_if_eq (tgt := 123) hx hb dX12_number_115 (by decide) (fun c20 => ?_) (fun c20 => ?_)
    · rw [if_pos c20] at hf
      refine lv_iconst (v := 0) hx hb dX12_number_123 (by decide) ?_
      have hj0 := Option.some.inj hf
      obtain ⟨ha0, hj1⟩ := Prod.mk.inj hj0
      obtain ⟨ha1, hj2⟩ := Prod.mk.inj hj1
      subst ha0
      subst ha1
      subst hj2
      exact hret _ _ _ _ dX12_number_124 rfl hP hD hS
    · rw [if_neg c20] at hf
      refine lv_iload hx hb dX12_number_118 (lv_at hl 1 rfl) ?_
      refine lv_goto (tgt := 124) hx hb dX12_number_120 (by decide) ?_
      have hj0 := Option.some.inj hf
      obtain ⟨ha0, hj1⟩ := Prod.mk.inj hj0
      obtain ⟨ha1, hj2⟩ := Prod.mk.inj hj1
      subst ha0
      subst ha1
      subst hj2
      exact hret _ _ _ _ dX12_number_124 rfl hP hD hS
  have J71 : ∀ (v4 : Int32) (v5 : Int32) (i_at : Int32) (i_wrong : Int32), fX12_number_J71 p2 p3 v4 v5 i_at i_wrong = some (r9, i_at9, i_wrong9) → GO p l e 2 s m args below meth c Q E A 6 71 [] [(0, .ref q0), (2, .int p2), (3, .int p3), (4, .int v4), (5, .int v5)] (WX12_number E q0 q0_now q0_hold q0_below q0_hay q0_weather q0_text q0_row q0_read q0_comes q0_rule q0_owedBy q0_undos q0_aside q0_acts q0_ring q0_bestRing q0_nets q0_worked q0_then q0_plan q0_bestPlan q0_tried q0_tracks q0_kept q0_isKept q0_keptCame n_read i_houses i_weatherMany i_typed i_rowMany i_thrown i_length i_top i_at i_wrong i_ruleSize i_isAsked i_askedInches i_askedPath i_askedDay i_askedRoof i_askedBelow i_askedLoose i_slidesMany i_owedNow i_slidInto i_undoMany i_bestLength i_setOff i_letLie i_trackMany i_came a_read) := by
    intro v4 v5 i_at i_wrong hf H locs ls hl hP hD hS
    unfold fX12_number_J71 at hf
    refine lv_aload_n hx hb dX12_number_71 rfl (lv_at hl 0 rfl) ?_
    refine gf_RX12_117 C hP 0 rfl rfl dX12_number_72 ?_
    refine lv_iload hx hb dX12_number_75 (lv_at hl 3 rfl) ?_
    refine lv_icmp_ne (tgt := 91) hx hb dX12_number_77 (by decide) (fun c14 => ?_) (fun c14 => ?_)
    · rw [if_neg c14] at hf
      refine lv_iload hx hb dX12_number_91 (lv_at hl 4 rfl) ?_
      refine lv_iload_n hx hb dX12_number_93 rfl (lv_at hl 1 rfl) ?_
      refine lv_iload_n hx hb dX12_number_94 rfl (lv_at hl 2 rfl) ?_
      obtain ⟨o15, hg16, hf⟩ := bd_some hf
      refine k_SI (As := [.int v5, .int p2, .int p3]) C K_RX12_97 (Nat.le_of_ble_eq_true rfl) (Nat.le_of_ble_eq_true rfl) (kX12_in l E v5 p2 p3 o15 hg16) [] rfl rfl rfl  hP hD hS hA hl.1 (Nat.le_of_ble_eq_true rfl) rfl dX12_number_95 (fun H locs hP hD hS => ?_)
      have hP : va_P E.1 classes (WX12_number E q0 q0_now q0_hold q0_below q0_hay q0_weather q0_text q0_row q0_read q0_comes q0_rule q0_owedBy q0_undos q0_aside q0_acts q0_ring q0_bestRing q0_nets q0_worked q0_then q0_plan q0_bestPlan q0_tried q0_tracks q0_kept q0_isKept q0_keptCame n_read i_houses i_weatherMany i_typed i_rowMany i_thrown i_length i_top i_at i_wrong i_ruleSize i_isAsked i_askedInches i_askedPath i_askedDay i_askedRoof i_askedBelow i_askedLoose i_slidesMany i_owedNow i_slidInto i_undoMany i_bestLength i_setOff i_letLie i_trackMany i_came a_read) H := hP
      have hD : va_D A (WX12_number E q0 q0_now q0_hold q0_below q0_hay q0_weather q0_text q0_row q0_read q0_comes q0_rule q0_owedBy q0_undos q0_aside q0_acts q0_ring q0_bestRing q0_nets q0_worked q0_then q0_plan q0_bestPlan q0_tried q0_tracks q0_kept q0_isKept q0_keptCame n_read i_houses i_weatherMany i_typed i_rowMany i_thrown i_length i_top i_at i_wrong i_ruleSize i_isAsked i_askedInches i_askedPath i_askedDay i_askedRoof i_askedBelow i_askedLoose i_slidesMany i_owedNow i_slidInto i_undoMany i_bestLength i_setOff i_letLie i_trackMany i_came a_read) := hD
      refine lv_if_ne (tgt := 111) hx hb dX12_number_98 (by decide) (fun c17 => ?_) (fun c17 => ?_)
      · rw [if_neg c17] at hf
        exact J111 v5 i_at i_wrong hf _ _ _ (lv_sub hl [0, 4] rfl) hP hD hS
      · rw [if_pos c17] at hf
        refine lv_aload_n hx hb dX12_number_101 rfl (lv_at hl 0 rfl) ?_
        refine lv_aload_n hx hb dX12_number_102 rfl (lv_at hl 0 rfl) ?_
        refine gf_RX12_117 C hP 0 rfl rfl dX12_number_103 ?_
        refine lv_iconst (v := 1) hx hb dX12_number_106 (by decide) ?_
        refine lv_isub hx hb dX12_number_107 ?_
        obtain ⟨o21, hg22, hf⟩ := bd_some hf
        refine k_VV (As := [.int ((i_at - 1))]) C K_RX12_135 (Nat.le_of_ble_eq_true rfl) (Nat.le_of_ble_eq_true rfl) (kX12_fault l E q0 q0_now q0_hold q0_below q0_hay q0_weather q0_text q0_row q0_comes q0_rule q0_owedBy q0_undos q0_aside q0_acts q0_ring q0_bestRing q0_nets q0_worked q0_then q0_plan q0_bestPlan q0_tried q0_tracks q0_kept q0_isKept q0_keptCame i_houses i_weatherMany i_typed i_rowMany i_thrown ((.ref q0_read)) i_length i_top i_at i_wrong i_ruleSize i_isAsked i_askedInches i_askedPath i_askedDay i_askedRoof i_askedBelow i_askedLoose i_slidesMany i_owedNow i_slidInto i_undoMany i_bestLength i_setOff i_letLie i_trackMany i_came ((i_at - 1)) o21 hg22) [0] rfl rfl rfl (ci := 12) rfl rfl (q0 := 0) rfl hP hD hS hA hl.1 (Nat.le_of_ble_eq_true rfl) rfl dX12_number_108 (fun H locs hP hD hS => ?_)
        have hP : va_P E.1 classes (WX12_number E q0 q0_now q0_hold q0_below q0_hay q0_weather q0_text q0_row q0_read q0_comes q0_rule q0_owedBy q0_undos q0_aside q0_acts q0_ring q0_bestRing q0_nets q0_worked q0_then q0_plan q0_bestPlan q0_tried q0_tracks q0_kept q0_isKept q0_keptCame n_read i_houses i_weatherMany i_typed i_rowMany i_thrown i_length i_top i_at o21 i_ruleSize i_isAsked i_askedInches i_askedPath i_askedDay i_askedRoof i_askedBelow i_askedLoose i_slidesMany i_owedNow i_slidInto i_undoMany i_bestLength i_setOff i_letLie i_trackMany i_came a_read) H := hP
        have hD : va_D A (WX12_number E q0 q0_now q0_hold q0_below q0_hay q0_weather q0_text q0_row q0_read q0_comes q0_rule q0_owedBy q0_undos q0_aside q0_acts q0_ring q0_bestRing q0_nets q0_worked q0_then q0_plan q0_bestPlan q0_tried q0_tracks q0_kept q0_isKept q0_keptCame n_read i_houses i_weatherMany i_typed i_rowMany i_thrown i_length i_top i_at o21 i_ruleSize i_isAsked i_askedInches i_askedPath i_askedDay i_askedRoof i_askedBelow i_askedLoose i_slidesMany i_owedNow i_slidInto i_undoMany i_bestLength i_setOff i_letLie i_trackMany i_came a_read) := hD
        exact J111 v5 i_at o21 hf _ _ _ (lv_sub hl [0, 4] rfl) hP hD hS
    · rw [if_pos c14] at hf
      refine lv_aload_n hx hb dX12_number_80 rfl (lv_at hl 0 rfl) ?_
      refine lv_aload_n hx hb dX12_number_81 rfl (lv_at hl 0 rfl) ?_
      refine gf_RX12_117 C hP 0 rfl rfl dX12_number_82 ?_
      obtain ⟨o23, hg24, hf⟩ := bd_some hf
      refine k_VV (As := [.int i_at]) C K_RX12_135 (Nat.le_of_ble_eq_true rfl) (Nat.le_of_ble_eq_true rfl) (kX12_fault l E q0 q0_now q0_hold q0_below q0_hay q0_weather q0_text q0_row q0_comes q0_rule q0_owedBy q0_undos q0_aside q0_acts q0_ring q0_bestRing q0_nets q0_worked q0_then q0_plan q0_bestPlan q0_tried q0_tracks q0_kept q0_isKept q0_keptCame i_houses i_weatherMany i_typed i_rowMany i_thrown ((.ref q0_read)) i_length i_top i_at i_wrong i_ruleSize i_isAsked i_askedInches i_askedPath i_askedDay i_askedRoof i_askedBelow i_askedLoose i_slidesMany i_owedNow i_slidInto i_undoMany i_bestLength i_setOff i_letLie i_trackMany i_came i_at o23 hg24) [0] rfl rfl rfl (ci := 12) rfl rfl (q0 := 0) rfl hP hD hS hA hl.1 (Nat.le_of_ble_eq_true rfl) rfl dX12_number_85 (fun H locs hP hD hS => ?_)
      have hP : va_P E.1 classes (WX12_number E q0 q0_now q0_hold q0_below q0_hay q0_weather q0_text q0_row q0_read q0_comes q0_rule q0_owedBy q0_undos q0_aside q0_acts q0_ring q0_bestRing q0_nets q0_worked q0_then q0_plan q0_bestPlan q0_tried q0_tracks q0_kept q0_isKept q0_keptCame n_read i_houses i_weatherMany i_typed i_rowMany i_thrown i_length i_top i_at o23 i_ruleSize i_isAsked i_askedInches i_askedPath i_askedDay i_askedRoof i_askedBelow i_askedLoose i_slidesMany i_owedNow i_slidInto i_undoMany i_bestLength i_setOff i_letLie i_trackMany i_came a_read) H := hP
      have hD : va_D A (WX12_number E q0 q0_now q0_hold q0_below q0_hay q0_weather q0_text q0_row q0_read q0_comes q0_rule q0_owedBy q0_undos q0_aside q0_acts q0_ring q0_bestRing q0_nets q0_worked q0_then q0_plan q0_bestPlan q0_tried q0_tracks q0_kept q0_isKept q0_keptCame n_read i_houses i_weatherMany i_typed i_rowMany i_thrown i_length i_top i_at o23 i_ruleSize i_isAsked i_askedInches i_askedPath i_askedDay i_askedRoof i_askedBelow i_askedLoose i_slidesMany i_owedNow i_slidInto i_undoMany i_bestLength i_setOff i_letLie i_trackMany i_came a_read) := hD
      refine lv_goto (tgt := 111) hx hb dX12_number_88 (by decide) ?_
      exact J111 v5 i_at o23 hf _ _ _ (lv_sub hl [0, 4] rfl) hP hD hS
  intro H locs ls hl hP hD hS
  have hl : lv_has ls 6 [(0, .ref q0), (1, .int p1), (2, .int p2), (3, .int p3)] := hl
  unfold fX12_number at hf
  refine lv_aload_n hx hb dX12_number_0 rfl (lv_at hl 0 rfl) ?_
  obtain ⟨o1, hg2, hf⟩ := bd_some hf
  refine k_VI (As := []) C K_RX12_123 (Nat.le_of_ble_eq_true rfl) (Nat.le_of_ble_eq_true rfl) (kX12_fine l E q0 q0_now q0_hold q0_below q0_hay q0_weather q0_text q0_row q0_comes q0_rule q0_owedBy q0_undos q0_aside q0_acts q0_ring q0_bestRing q0_nets q0_worked q0_then q0_plan q0_bestPlan q0_tried q0_tracks q0_kept q0_isKept q0_keptCame i_houses i_weatherMany i_typed i_rowMany i_thrown ((.ref q0_read)) i_length i_top i_at i_wrong i_ruleSize i_isAsked i_askedInches i_askedPath i_askedDay i_askedRoof i_askedBelow i_askedLoose i_slidesMany i_owedNow i_slidInto i_undoMany i_bestLength i_setOff i_letLie i_trackMany i_came o1 hg2) [0] rfl rfl rfl (ci := 12) rfl rfl (q0 := 0) rfl hP hD hS hA hl.1 (Nat.le_of_ble_eq_true rfl) rfl dX12_number_1 (fun H locs hP hD hS => ?_)
  have hP : va_P E.1 classes (WX12_number E q0 q0_now q0_hold q0_below q0_hay q0_weather q0_text q0_row q0_read q0_comes q0_rule q0_owedBy q0_undos q0_aside q0_acts q0_ring q0_bestRing q0_nets q0_worked q0_then q0_plan q0_bestPlan q0_tried q0_tracks q0_kept q0_isKept q0_keptCame n_read i_houses i_weatherMany i_typed i_rowMany i_thrown i_length i_top i_at i_wrong i_ruleSize i_isAsked i_askedInches i_askedPath i_askedDay i_askedRoof i_askedBelow i_askedLoose i_slidesMany i_owedNow i_slidInto i_undoMany i_bestLength i_setOff i_letLie i_trackMany i_came a_read) H := hP
  have hD : va_D A (WX12_number E q0 q0_now q0_hold q0_below q0_hay q0_weather q0_text q0_row q0_read q0_comes q0_rule q0_owedBy q0_undos q0_aside q0_acts q0_ring q0_bestRing q0_nets q0_worked q0_then q0_plan q0_bestPlan q0_tried q0_tracks q0_kept q0_isKept q0_keptCame n_read i_houses i_weatherMany i_typed i_rowMany i_thrown i_length i_top i_at i_wrong i_ruleSize i_isAsked i_askedInches i_askedPath i_askedDay i_askedRoof i_askedBelow i_askedLoose i_slidesMany i_owedNow i_slidInto i_undoMany i_bestLength i_setOff i_letLie i_trackMany i_came a_read) := hD
  refine lv_if_ne (tgt := 9) hx hb dX12_number_4 (by decide) (fun c3 => ?_) (fun c3 => ?_)
  · rw [if_neg c3] at hf
    refine lv_aload_n hx hb dX12_number_9 rfl (lv_at hl 0 rfl) ?_
    refine gf_RX12_117 C hP 0 rfl rfl dX12_number_10 ?_
    refine lv_istore (lv' := [(4, .int i_at), (0, .ref q0), (1, .int p1), (2, .int p2), (3, .int p3)]) hx hb dX12_number_13 hl (by decide) rfl (fun ls hl => ?_)
    refine lv_iconst (v := 0) hx hb dX12_number_15 (by decide) ?_
    refine lv_istore (lv' := [(5, .int 0), (4, .int i_at), (0, .ref q0), (1, .int p1), (2, .int p2), (3, .int p3)]) hx hb dX12_number_16 hl (by decide) rfl (fun ls hl => ?_)
    obtain ⟨o12, hg13, hf⟩ := bd_some hf
    refine L18 i_at i_wrong FU 0 i_at o12 hg13 ?_ _ _ _ (lv_sub hl [2, 3, 4, 5, 1, 0] rfl) hP hD hS
    intro H locs ls hl hP hD hS
    exact J71 i_at o12.1 o12.2 i_wrong hf _ _ _ (lv_sub hl [0, 1, 2, 3, 4] rfl) hP hD hS
  · rw [if_pos c3] at hf
    refine lv_iconst (v := 0) hx hb dX12_number_7 (by decide) ?_
    have hj0 := Option.some.inj hf
    obtain ⟨ha0, hj1⟩ := Prod.mk.inj hj0
    obtain ⟨ha1, hj2⟩ := Prod.mk.inj hj1
    subst ha0
    subst ha1
    subst hj2
    exact hret _ _ _ _ dX12_number_8 rfl hP hD hS
theorem K_RX12_139 : KV RX12 139 yX12_begin cX12_begin 4 none 3 := ⟨Tg_mem 1506 (by decide +kernel) (by decide +kernel), Tg_mem 102 (by decide +kernel) (by decide +kernel), Tg_mem 1503 (by decide +kernel) (by decide +kernel), Tg_mem 1505 (by decide +kernel) (by decide +kernel), Tg_mem 41 (by decide +kernel) (by decide +kernel), by decide +kernel⟩
theorem q1343 : Cond.fieldLink RX12 32 "SnowForSummerModel" "comes" "[I" ∈ Tg := Tg_mem 1343 (by decide +kernel) (by decide +kernel)
theorem gf_RX12_32 {p : Program} {l : Launch} {e : Env} {R : Room} {s : State} {m : MethodId} {args : Array Value} {below : List Frame} {meth : Method} {c : Code} {H : Heap} {locs : List Loc} {cells slots : Nat} {Q : State → Prop} {E : ENV} {cc : ByteArray} {n : Nat} {r : Option FieldType} {pc : Nat} {ls : Array Slot} {rest : List Value} {a : Nat} {ws : va_W} {nm ds : String} {fs : List Value} {A : Nat → Prop} {v : Value} (C : Cx E A ⟨RX12, nm, ds⟩ cc n r p s m args meth c) (hP : va_P E.1 classes ws H) (q0 : Nat) (he : ws[q0]? = some (a, .inr (12, fs))) (hv : fs[17]? = some v) (hdg : decode cc pc = .ok (.getfield 32, 3))
    (kk : W p l e R s m args below meth c H locs cells slots Q (F0 m (pc + 3) ls (v :: rest))) : W p l e R s m args below meth c H locs cells slots Q (F0 m pc ls (.ref a :: rest)) :=
  va_get (C := RX12) (T := TX12) (N := 52) (Ts := wl ⟨RX12, nm, ds⟩ cc n r) C.1 C.2.1 C.2.2.2.2.1 (fun w h => List.mem_cons_of_mem _ (inT12 w h)) C.2.2.2.1 C.2.2.2.2.2.1 hP q0 he rfl 17 (by decide) (C.2.2.2.2.1 _ (List.mem_cons_of_mem _ q1343)) (fun _ h9 => h9) hv hdg kk
theorem K_RX12_143 : KV RX12 143 yX12_number cX12_number 6 (some .int) 3 := ⟨Tg_mem 1518 (by decide +kernel) (by decide +kernel), Tg_mem 102 (by decide +kernel) (by decide +kernel), Tg_mem 1515 (by decide +kernel) (by decide +kernel), Tg_mem 1517 (by decide +kernel) (by decide +kernel), Tg_mem 44 (by decide +kernel) (by decide +kernel), by decide +kernel⟩
theorem K_RX12_147 : KV RX12 147 yX12_need cX12_need 2 none 1 := ⟨Tg_mem 1526 (by decide +kernel) (by decide +kernel), Tg_mem 102 (by decide +kernel) (by decide +kernel), Tg_mem 1523 (by decide +kernel) (by decide +kernel), Tg_mem 1525 (by decide +kernel) (by decide +kernel), Tg_mem 46 (by decide +kernel) (by decide +kernel), by decide +kernel⟩
theorem q1328 : Cond.fieldLink RX12 13 "SnowForSummerModel" "hold" "[I" ∈ Tg := Tg_mem 1328 (by decide +kernel) (by decide +kernel)
theorem gf_RX12_13 {p : Program} {l : Launch} {e : Env} {R : Room} {s : State} {m : MethodId} {args : Array Value} {below : List Frame} {meth : Method} {c : Code} {H : Heap} {locs : List Loc} {cells slots : Nat} {Q : State → Prop} {E : ENV} {cc : ByteArray} {n : Nat} {r : Option FieldType} {pc : Nat} {ls : Array Slot} {rest : List Value} {a : Nat} {ws : va_W} {nm ds : String} {fs : List Value} {A : Nat → Prop} {v : Value} (C : Cx E A ⟨RX12, nm, ds⟩ cc n r p s m args meth c) (hP : va_P E.1 classes ws H) (q0 : Nat) (he : ws[q0]? = some (a, .inr (12, fs))) (hv : fs[2]? = some v) (hdg : decode cc pc = .ok (.getfield 13, 3))
    (kk : W p l e R s m args below meth c H locs cells slots Q (F0 m (pc + 3) ls (v :: rest))) : W p l e R s m args below meth c H locs cells slots Q (F0 m pc ls (.ref a :: rest)) :=
  va_get (C := RX12) (T := TX12) (N := 52) (Ts := wl ⟨RX12, nm, ds⟩ cc n r) C.1 C.2.1 C.2.2.2.2.1 (fun w h => List.mem_cons_of_mem _ (inT12 w h)) C.2.2.2.1 C.2.2.2.2.2.1 hP q0 he rfl 2 (by decide) (C.2.2.2.2.1 _ (List.mem_cons_of_mem _ q1328)) (fun _ h9 => h9) hv hdg kk
theorem q1329 : Cond.fieldLink RX12 16 "SnowForSummerModel" "below" "[I" ∈ Tg := Tg_mem 1329 (by decide +kernel) (by decide +kernel)
theorem gf_RX12_16 {p : Program} {l : Launch} {e : Env} {R : Room} {s : State} {m : MethodId} {args : Array Value} {below : List Frame} {meth : Method} {c : Code} {H : Heap} {locs : List Loc} {cells slots : Nat} {Q : State → Prop} {E : ENV} {cc : ByteArray} {n : Nat} {r : Option FieldType} {pc : Nat} {ls : Array Slot} {rest : List Value} {a : Nat} {ws : va_W} {nm ds : String} {fs : List Value} {A : Nat → Prop} {v : Value} (C : Cx E A ⟨RX12, nm, ds⟩ cc n r p s m args meth c) (hP : va_P E.1 classes ws H) (q0 : Nat) (he : ws[q0]? = some (a, .inr (12, fs))) (hv : fs[3]? = some v) (hdg : decode cc pc = .ok (.getfield 16, 3))
    (kk : W p l e R s m args below meth c H locs cells slots Q (F0 m (pc + 3) ls (v :: rest))) : W p l e R s m args below meth c H locs cells slots Q (F0 m pc ls (.ref a :: rest)) :=
  va_get (C := RX12) (T := TX12) (N := 52) (Ts := wl ⟨RX12, nm, ds⟩ cc n r) C.1 C.2.1 C.2.2.2.2.1 (fun w h => List.mem_cons_of_mem _ (inT12 w h)) C.2.2.2.1 C.2.2.2.2.2.1 hP q0 he rfl 3 (by decide) (C.2.2.2.2.1 _ (List.mem_cons_of_mem _ q1329)) (fun _ h9 => h9) hv hdg kk
theorem q1330 : Cond.fieldLink RX12 19 "SnowForSummerModel" "hay" "[I" ∈ Tg := Tg_mem 1330 (by decide +kernel) (by decide +kernel)
theorem gf_RX12_19 {p : Program} {l : Launch} {e : Env} {R : Room} {s : State} {m : MethodId} {args : Array Value} {below : List Frame} {meth : Method} {c : Code} {H : Heap} {locs : List Loc} {cells slots : Nat} {Q : State → Prop} {E : ENV} {cc : ByteArray} {n : Nat} {r : Option FieldType} {pc : Nat} {ls : Array Slot} {rest : List Value} {a : Nat} {ws : va_W} {nm ds : String} {fs : List Value} {A : Nat → Prop} {v : Value} (C : Cx E A ⟨RX12, nm, ds⟩ cc n r p s m args meth c) (hP : va_P E.1 classes ws H) (q0 : Nat) (he : ws[q0]? = some (a, .inr (12, fs))) (hv : fs[4]? = some v) (hdg : decode cc pc = .ok (.getfield 19, 3))
    (kk : W p l e R s m args below meth c H locs cells slots Q (F0 m (pc + 3) ls (v :: rest))) : W p l e R s m args below meth c H locs cells slots Q (F0 m pc ls (.ref a :: rest)) :=
  va_get (C := RX12) (T := TX12) (N := 52) (Ts := wl ⟨RX12, nm, ds⟩ cc n r) C.1 C.2.1 C.2.2.2.2.1 (fun w h => List.mem_cons_of_mem _ (inT12 w h)) C.2.2.2.1 C.2.2.2.2.2.1 hP q0 he rfl 4 (by decide) (C.2.2.2.2.1 _ (List.mem_cons_of_mem _ q1330)) (fun _ h9 => h9) hv hdg kk
theorem pf_RX12_94 {p : Program} {l : Launch} {e : Env} {R : Room} {s : State} {m : MethodId} {args : Array Value} {below : List Frame} {meth : Method} {c : Code} {H : Heap} {locs : List Loc} {cells slots : Nat} {Q : State → Prop} {E : ENV} {cc : ByteArray} {n : Nat} {r : Option FieldType} {pc : Nat} {ls : Array Slot} {rest : List Value} {a : Nat} {ws : va_W} {nm ds : String} {fs : List Value} {A : Nat → Prop} {H0 : Heap} {x : Int32} (C : Cx E A ⟨RX12, nm, ds⟩ cc n r p s m args meth c) (hP : va_P E.1 classes ws H) (hD : va_D A ws) (hS : va_S A H0 H locs) (q0 : Nat) (he : ws[q0]? = some (a, .inr (12, fs))) (hl : 1 < fs.length) (hdg : decode cc pc = .ok (.putfield 94, 3))
    (kk : ∀ (H1 : Heap) (locs1 : List Loc), va_P E.1 classes (ws.set q0 (a, .inr (12, fs.set 1 (.int x)))) H1 → va_D A (ws.set q0 (a, .inr (12, fs.set 1 (.int x)))) → va_S A H0 H1 locs1 → W p l e R s m args below meth c H1 locs1 cells slots Q (F0 m (pc + 3) ls rest)) : W p l e R s m args below meth c H locs cells slots Q (F0 m pc ls (.int x :: .ref a :: rest)) :=
  va_put (C := RX12) (T := TX12) (N := 52) (ty := .int) (Ts := wl ⟨RX12, nm, ds⟩ cc n r) C.1 C.2.1 C.2.2.2.2.1 (fun w h => List.mem_cons_of_mem _ (inT12 w h)) tyX12 tyX12_ok nmX12 C.2.2.2.1 C.2.2.2.2.2.1 hP hD hS q0 he rfl 1 (by decide) (C.2.2.2.2.1 _ (List.mem_cons_of_mem _ q1327)) (fun _ h9 => h9) rfl (by decide +kernel) rfl rfl hl hdg kk
theorem q1358 : Cond.fieldLink RX12 151 "SnowForSummerModel" "undoMany" "I" ∈ Tg := Tg_mem 1358 (by decide +kernel) (by decide +kernel)
theorem pf_RX12_151 {p : Program} {l : Launch} {e : Env} {R : Room} {s : State} {m : MethodId} {args : Array Value} {below : List Frame} {meth : Method} {c : Code} {H : Heap} {locs : List Loc} {cells slots : Nat} {Q : State → Prop} {E : ENV} {cc : ByteArray} {n : Nat} {r : Option FieldType} {pc : Nat} {ls : Array Slot} {rest : List Value} {a : Nat} {ws : va_W} {nm ds : String} {fs : List Value} {A : Nat → Prop} {H0 : Heap} {x : Int32} (C : Cx E A ⟨RX12, nm, ds⟩ cc n r p s m args meth c) (hP : va_P E.1 classes ws H) (hD : va_D A ws) (hS : va_S A H0 H locs) (q0 : Nat) (he : ws[q0]? = some (a, .inr (12, fs))) (hl : 32 < fs.length) (hdg : decode cc pc = .ok (.putfield 151, 3))
    (kk : ∀ (H1 : Heap) (locs1 : List Loc), va_P E.1 classes (ws.set q0 (a, .inr (12, fs.set 32 (.int x)))) H1 → va_D A (ws.set q0 (a, .inr (12, fs.set 32 (.int x)))) → va_S A H0 H1 locs1 → W p l e R s m args below meth c H1 locs1 cells slots Q (F0 m (pc + 3) ls rest)) : W p l e R s m args below meth c H locs cells slots Q (F0 m pc ls (.int x :: .ref a :: rest)) :=
  va_put (C := RX12) (T := TX12) (N := 52) (ty := .int) (Ts := wl ⟨RX12, nm, ds⟩ cc n r) C.1 C.2.1 C.2.2.2.2.1 (fun w h => List.mem_cons_of_mem _ (inT12 w h)) tyX12 tyX12_ok nmX12 C.2.2.2.1 C.2.2.2.2.2.1 hP hD hS q0 he rfl 32 (by decide) (C.2.2.2.2.1 _ (List.mem_cons_of_mem _ q1358)) (fun _ h9 => h9) rfl (by decide +kernel) rfl rfl hl hdg kk
theorem q1374 : Cond.fieldLink RX12 154 "SnowForSummerModel" "came" "I" ∈ Tg := Tg_mem 1374 (by decide +kernel) (by decide +kernel)
theorem gf_RX12_154 {p : Program} {l : Launch} {e : Env} {R : Room} {s : State} {m : MethodId} {args : Array Value} {below : List Frame} {meth : Method} {c : Code} {H : Heap} {locs : List Loc} {cells slots : Nat} {Q : State → Prop} {E : ENV} {cc : ByteArray} {n : Nat} {r : Option FieldType} {pc : Nat} {ls : Array Slot} {rest : List Value} {a : Nat} {ws : va_W} {nm ds : String} {fs : List Value} {A : Nat → Prop} {v : Value} (C : Cx E A ⟨RX12, nm, ds⟩ cc n r p s m args meth c) (hP : va_P E.1 classes ws H) (q0 : Nat) (he : ws[q0]? = some (a, .inr (12, fs))) (hv : fs[48]? = some v) (hdg : decode cc pc = .ok (.getfield 154, 3))
    (kk : W p l e R s m args below meth c H locs cells slots Q (F0 m (pc + 3) ls (v :: rest))) : W p l e R s m args below meth c H locs cells slots Q (F0 m pc ls (.ref a :: rest)) :=
  va_get (C := RX12) (T := TX12) (N := 52) (Ts := wl ⟨RX12, nm, ds⟩ cc n r) C.1 C.2.1 C.2.2.2.2.1 (fun w h => List.mem_cons_of_mem _ (inT12 w h)) C.2.2.2.1 C.2.2.2.2.2.1 hP q0 he rfl 48 (by decide) (C.2.2.2.2.1 _ (List.mem_cons_of_mem _ q1374)) (fun _ h9 => h9) hv hdg kk
theorem pf_RX12_154 {p : Program} {l : Launch} {e : Env} {R : Room} {s : State} {m : MethodId} {args : Array Value} {below : List Frame} {meth : Method} {c : Code} {H : Heap} {locs : List Loc} {cells slots : Nat} {Q : State → Prop} {E : ENV} {cc : ByteArray} {n : Nat} {r : Option FieldType} {pc : Nat} {ls : Array Slot} {rest : List Value} {a : Nat} {ws : va_W} {nm ds : String} {fs : List Value} {A : Nat → Prop} {H0 : Heap} {x : Int32} (C : Cx E A ⟨RX12, nm, ds⟩ cc n r p s m args meth c) (hP : va_P E.1 classes ws H) (hD : va_D A ws) (hS : va_S A H0 H locs) (q0 : Nat) (he : ws[q0]? = some (a, .inr (12, fs))) (hl : 48 < fs.length) (hdg : decode cc pc = .ok (.putfield 154, 3))
    (kk : ∀ (H1 : Heap) (locs1 : List Loc), va_P E.1 classes (ws.set q0 (a, .inr (12, fs.set 48 (.int x)))) H1 → va_D A (ws.set q0 (a, .inr (12, fs.set 48 (.int x)))) → va_S A H0 H1 locs1 → W p l e R s m args below meth c H1 locs1 cells slots Q (F0 m (pc + 3) ls rest)) : W p l e R s m args below meth c H locs cells slots Q (F0 m pc ls (.int x :: .ref a :: rest)) :=
  va_put (C := RX12) (T := TX12) (N := 52) (ty := .int) (Ts := wl ⟨RX12, nm, ds⟩ cc n r) C.1 C.2.1 C.2.2.2.2.1 (fun w h => List.mem_cons_of_mem _ (inT12 w h)) tyX12 tyX12_ok nmX12 C.2.2.2.1 C.2.2.2.2.2.1 hP hD hS q0 he rfl 48 (by decide) (C.2.2.2.2.1 _ (List.mem_cons_of_mem _ q1374)) (fun _ h9 => h9) rfl (by decide +kernel) rfl rfl hl hdg kk
theorem dX12_town_0 : decode cX12_town 0 = .ok (.aload_n 0, 1) := by decide +kernel
theorem dX12_town_1 : decode cX12_town 1 = .ok (.iconst 0, 1) := by decide +kernel
theorem dX12_town_2 : decode cX12_town 2 = .ok (.putfield 87, 3) := by decide +kernel
theorem dX12_town_5 : decode cX12_town 5 = .ok (.aload_n 0, 1) := by decide +kernel
theorem dX12_town_6 : decode cX12_town 6 = .ok (.aload_n 0, 1) := by decide +kernel
theorem dX12_town_7 : decode cX12_town 7 = .ok (.getfield 25, 3) := by decide +kernel
theorem dX12_town_10 : decode cX12_town 10 = .ok (.aload_n 0, 1) := by decide +kernel
theorem dX12_town_11 : decode cX12_town 11 = .ok (.getfield 105, 3) := by decide +kernel
theorem dX12_town_14 : decode cX12_town 14 = .ok (.bipush 76, 2) := by decide +kernel
theorem dX12_town_16 : decode cX12_town 16 = .ok (.invokevirtual 139, 3) := by decide +kernel
theorem dX12_town_19 : decode cX12_town 19 = .ok (.aload_n 0, 1) := by decide +kernel
theorem dX12_town_20 : decode cX12_town 20 = .ok (.iconst 0, 1) := by decide +kernel
theorem dX12_town_21 : decode cX12_town 21 = .ok (.putfield 105, 3) := by decide +kernel
theorem dX12_town_24 : decode cX12_town 24 = .ok (.aload_n 0, 1) := by decide +kernel
theorem dX12_town_25 : decode cX12_town 25 = .ok (.getfield 111, 3) := by decide +kernel
theorem dX12_town_28 : decode cX12_town 28 = .ok (.ifCond .ne 5, 3) := by decide +kernel
theorem dX12_town_31 : decode cX12_town 31 = .ok (.iconst 0, 1) := by decide +kernel
theorem dX12_town_32 : decode cX12_town 32 = .ok (.ireturn, 1) := by decide +kernel
theorem dX12_town_33 : decode cX12_town 33 = .ok (.iconst 0, 1) := by decide +kernel
theorem dX12_town_34 : decode cX12_town 34 = .ok (.istore_n 1, 1) := by decide +kernel
theorem dX12_town_35 : decode cX12_town 35 = .ok (.iconst 1, 1) := by decide +kernel
theorem dX12_town_36 : decode cX12_town 36 = .ok (.istore_n 2, 1) := by decide +kernel
theorem dX12_town_37 : decode cX12_town 37 = .ok (.iload_n 2, 1) := by decide +kernel
theorem dX12_town_38 : decode cX12_town 38 = .ok (.ifCond .eq 134, 3) := by decide +kernel
theorem dX12_town_41 : decode cX12_town 41 = .ok (.aload_n 0, 1) := by decide +kernel
theorem dX12_town_42 : decode cX12_town 42 = .ok (.invokevirtual 123, 3) := by decide +kernel
theorem dX12_town_45 : decode cX12_town 45 = .ok (.ifCond .eq 127, 3) := by decide +kernel
theorem dX12_town_48 : decode cX12_town 48 = .ok (.aload_n 0, 1) := by decide +kernel
theorem dX12_town_49 : decode cX12_town 49 = .ok (.getfield 94, 3) := by decide +kernel
theorem dX12_town_52 : decode cX12_town 52 = .ok (.iload_n 1, 1) := by decide +kernel
theorem dX12_town_53 : decode cX12_town 53 = .ok (.iadd, 1) := by decide +kernel
theorem dX12_town_54 : decode cX12_town 54 = .ok (.bipush 7, 2) := by decide +kernel
theorem dX12_town_56 : decode cX12_town 56 = .ok (.if_icmp .ne 14, 3) := by decide +kernel
theorem dX12_town_59 : decode cX12_town 59 = .ok (.aload_n 0, 1) := by decide +kernel
theorem dX12_town_60 : decode cX12_town 60 = .ok (.aload_n 0, 1) := by decide +kernel
theorem dX12_town_61 : decode cX12_town 61 = .ok (.getfield 117, 3) := by decide +kernel
theorem dX12_town_64 : decode cX12_town 64 = .ok (.invokevirtual 135, 3) := by decide +kernel
theorem dX12_town_67 : decode cX12_town 67 = .ok (.goto 92, 3) := by decide +kernel
theorem dX12_town_70 : decode cX12_town 70 = .ok (.aload_n 0, 1) := by decide +kernel
theorem dX12_town_71 : decode cX12_town 71 = .ok (.getfield 32, 3) := by decide +kernel
theorem dX12_town_74 : decode cX12_town 74 = .ok (.iconst 4, 1) := by decide +kernel
theorem dX12_town_75 : decode cX12_town 75 = .ok (.iload_n 1, 1) := by decide +kernel
theorem dX12_town_76 : decode cX12_town 76 = .ok (.imul, 1) := by decide +kernel
theorem dX12_town_77 : decode cX12_town 77 = .ok (.aload_n 0, 1) := by decide +kernel
theorem dX12_town_78 : decode cX12_town 78 = .ok (.iconst 2, 1) := by decide +kernel
theorem dX12_town_79 : decode cX12_town 79 = .ok (.iconst 1, 1) := by decide +kernel
theorem dX12_town_80 : decode cX12_town 80 = .ok (.bipush 99, 2) := by decide +kernel
theorem dX12_town_82 : decode cX12_town 82 = .ok (.invokevirtual 143, 3) := by decide +kernel
theorem dX12_town_85 : decode cX12_town 85 = .ok (.iastore, 1) := by decide +kernel
theorem dX12_town_86 : decode cX12_town 86 = .ok (.aload_n 0, 1) := by decide +kernel
theorem dX12_town_87 : decode cX12_town 87 = .ok (.bipush 44, 2) := by decide +kernel
theorem dX12_town_89 : decode cX12_town 89 = .ok (.invokevirtual 147, 3) := by decide +kernel
theorem dX12_town_92 : decode cX12_town 92 = .ok (.aload_n 0, 1) := by decide +kernel
theorem dX12_town_93 : decode cX12_town 93 = .ok (.getfield 32, 3) := by decide +kernel
theorem dX12_town_96 : decode cX12_town 96 = .ok (.iconst 4, 1) := by decide +kernel
theorem dX12_town_97 : decode cX12_town 97 = .ok (.iload_n 1, 1) := by decide +kernel
theorem dX12_town_98 : decode cX12_town 98 = .ok (.imul, 1) := by decide +kernel
theorem dX12_town_99 : decode cX12_town 99 = .ok (.iconst 1, 1) := by decide +kernel
theorem dX12_town_100 : decode cX12_town 100 = .ok (.iadd, 1) := by decide +kernel
theorem dX12_town_101 : decode cX12_town 101 = .ok (.aload_n 0, 1) := by decide +kernel
theorem dX12_town_102 : decode cX12_town 102 = .ok (.iconst 1, 1) := by decide +kernel
theorem dX12_town_103 : decode cX12_town 103 = .ok (.iconst 0, 1) := by decide +kernel
theorem dX12_town_104 : decode cX12_town 104 = .ok (.bipush 6, 2) := by decide +kernel
theorem dX12_town_106 : decode cX12_town 106 = .ok (.invokevirtual 143, 3) := by decide +kernel
theorem dX12_town_109 : decode cX12_town 109 = .ok (.iastore, 1) := by decide +kernel
theorem dX12_town_110 : decode cX12_town 110 = .ok (.aload_n 0, 1) := by decide +kernel
theorem dX12_town_111 : decode cX12_town 111 = .ok (.getfield 32, 3) := by decide +kernel
theorem dX12_town_114 : decode cX12_town 114 = .ok (.iconst 4, 1) := by decide +kernel
theorem dX12_town_115 : decode cX12_town 115 = .ok (.iload_n 1, 1) := by decide +kernel
theorem dX12_town_116 : decode cX12_town 116 = .ok (.imul, 1) := by decide +kernel
theorem dX12_town_117 : decode cX12_town 117 = .ok (.iconst 2, 1) := by decide +kernel
theorem dX12_town_118 : decode cX12_town 118 = .ok (.iadd, 1) := by decide +kernel
theorem dX12_town_119 : decode cX12_town 119 = .ok (.aload_n 0, 1) := by decide +kernel
theorem dX12_town_120 : decode cX12_town 120 = .ok (.iconst 1, 1) := by decide +kernel
theorem dX12_town_121 : decode cX12_town 121 = .ok (.iconst 0, 1) := by decide +kernel
theorem dX12_town_122 : decode cX12_town 122 = .ok (.bipush 6, 2) := by decide +kernel
theorem dX12_town_124 : decode cX12_town 124 = .ok (.invokevirtual 143, 3) := by decide +kernel
theorem dX12_town_127 : decode cX12_town 127 = .ok (.iastore, 1) := by decide +kernel
theorem dX12_town_128 : decode cX12_town 128 = .ok (.aload_n 0, 1) := by decide +kernel
theorem dX12_town_129 : decode cX12_town 129 = .ok (.getfield 32, 3) := by decide +kernel
theorem dX12_town_132 : decode cX12_town 132 = .ok (.iconst 4, 1) := by decide +kernel
theorem dX12_town_133 : decode cX12_town 133 = .ok (.iload_n 1, 1) := by decide +kernel
theorem dX12_town_134 : decode cX12_town 134 = .ok (.imul, 1) := by decide +kernel
theorem dX12_town_135 : decode cX12_town 135 = .ok (.iconst 3, 1) := by decide +kernel
theorem dX12_town_136 : decode cX12_town 136 = .ok (.iadd, 1) := by decide +kernel
theorem dX12_town_137 : decode cX12_town 137 = .ok (.aload_n 0, 1) := by decide +kernel
theorem dX12_town_138 : decode cX12_town 138 = .ok (.bipush 42, 2) := by decide +kernel
theorem dX12_town_140 : decode cX12_town 140 = .ok (.invokevirtual 131, 3) := by decide +kernel
theorem dX12_town_143 : decode cX12_town 143 = .ok (.ifCond .eq 14, 3) := by decide +kernel
theorem dX12_town_146 : decode cX12_town 146 = .ok (.aload_n 0, 1) := by decide +kernel
theorem dX12_town_147 : decode cX12_town 147 = .ok (.iconst 2, 1) := by decide +kernel
theorem dX12_town_148 : decode cX12_town 148 = .ok (.iconst 0, 1) := by decide +kernel
theorem dX12_town_149 : decode cX12_town 149 = .ok (.bipush 30, 2) := by decide +kernel
theorem dX12_town_151 : decode cX12_town 151 = .ok (.invokevirtual 143, 3) := by decide +kernel
theorem dX12_town_154 : decode cX12_town 154 = .ok (.goto 4, 3) := by decide +kernel
theorem dX12_town_157 : decode cX12_town 157 = .ok (.iconst 0, 1) := by decide +kernel
theorem dX12_town_158 : decode cX12_town 158 = .ok (.iastore, 1) := by decide +kernel
theorem dX12_town_159 : decode cX12_town 159 = .ok (.iinc 1 1, 3) := by decide +kernel
theorem dX12_town_162 : decode cX12_town 162 = .ok (.aload_n 0, 1) := by decide +kernel
theorem dX12_town_163 : decode cX12_town 163 = .ok (.bipush 59, 2) := by decide +kernel
theorem dX12_town_165 : decode cX12_town 165 = .ok (.invokevirtual 131, 3) := by decide +kernel
theorem dX12_town_168 : decode cX12_town 168 = .ok (.istore_n 2, 1) := by decide +kernel
theorem dX12_town_169 : decode cX12_town 169 = .ok (.goto (-132), 3) := by decide +kernel
theorem dX12_town_172 : decode cX12_town 172 = .ok (.aload_n 0, 1) := by decide +kernel
theorem dX12_town_173 : decode cX12_town 173 = .ok (.getfield 117, 3) := by decide +kernel
theorem dX12_town_176 : decode cX12_town 176 = .ok (.aload_n 0, 1) := by decide +kernel
theorem dX12_town_177 : decode cX12_town 177 = .ok (.getfield 111, 3) := by decide +kernel
theorem dX12_town_180 : decode cX12_town 180 = .ok (.if_icmp .ge 11, 3) := by decide +kernel
theorem dX12_town_183 : decode cX12_town 183 = .ok (.aload_n 0, 1) := by decide +kernel
theorem dX12_town_184 : decode cX12_town 184 = .ok (.aload_n 0, 1) := by decide +kernel
theorem dX12_town_185 : decode cX12_town 185 = .ok (.getfield 117, 3) := by decide +kernel
theorem dX12_town_188 : decode cX12_town 188 = .ok (.invokevirtual 135, 3) := by decide +kernel
theorem dX12_town_191 : decode cX12_town 191 = .ok (.aload_n 0, 1) := by decide +kernel
theorem dX12_town_192 : decode cX12_town 192 = .ok (.invokevirtual 123, 3) := by decide +kernel
theorem dX12_town_195 : decode cX12_town 195 = .ok (.ifCond .ne 10, 3) := by decide +kernel
theorem dX12_town_198 : decode cX12_town 198 = .ok (.iconst (-1), 1) := by decide +kernel
theorem dX12_town_199 : decode cX12_town 199 = .ok (.aload_n 0, 1) := by decide +kernel
theorem dX12_town_200 : decode cX12_town 200 = .ok (.getfield 120, 3) := by decide +kernel
theorem dX12_town_203 : decode cX12_town 203 = .ok (.isub, 1) := by decide +kernel
theorem dX12_town_204 : decode cX12_town 204 = .ok (.ireturn, 1) := by decide +kernel
theorem dX12_town_205 : decode cX12_town 205 = .ok (.iconst 0, 1) := by decide +kernel
theorem dX12_town_206 : decode cX12_town 206 = .ok (.istore_n 3, 1) := by decide +kernel
theorem dX12_town_207 : decode cX12_town 207 = .ok (.iload_n 3, 1) := by decide +kernel
theorem dX12_town_208 : decode cX12_town 208 = .ok (.iload_n 1, 1) := by decide +kernel
theorem dX12_town_209 : decode cX12_town 209 = .ok (.if_icmp .ge 99, 3) := by decide +kernel
theorem dX12_town_212 : decode cX12_town 212 = .ok (.aload_n 0, 1) := by decide +kernel
theorem dX12_town_213 : decode cX12_town 213 = .ok (.getfield 13, 3) := by decide +kernel
theorem dX12_town_216 : decode cX12_town 216 = .ok (.aload_n 0, 1) := by decide +kernel
theorem dX12_town_217 : decode cX12_town 217 = .ok (.getfield 94, 3) := by decide +kernel
theorem dX12_town_220 : decode cX12_town 220 = .ok (.aload_n 0, 1) := by decide +kernel
theorem dX12_town_221 : decode cX12_town 221 = .ok (.getfield 32, 3) := by decide +kernel
theorem dX12_town_224 : decode cX12_town 224 = .ok (.iconst 4, 1) := by decide +kernel
theorem dX12_town_225 : decode cX12_town 225 = .ok (.iload_n 3, 1) := by decide +kernel
theorem dX12_town_226 : decode cX12_town 226 = .ok (.imul, 1) := by decide +kernel
theorem dX12_town_227 : decode cX12_town 227 = .ok (.iaload, 1) := by decide +kernel
theorem dX12_town_228 : decode cX12_town 228 = .ok (.iastore, 1) := by decide +kernel
theorem dX12_town_229 : decode cX12_town 229 = .ok (.aload_n 0, 1) := by decide +kernel
theorem dX12_town_230 : decode cX12_town 230 = .ok (.getfield 16, 3) := by decide +kernel
theorem dX12_town_233 : decode cX12_town 233 = .ok (.iconst 2, 1) := by decide +kernel
theorem dX12_town_234 : decode cX12_town 234 = .ok (.aload_n 0, 1) := by decide +kernel
theorem dX12_town_235 : decode cX12_town 235 = .ok (.getfield 94, 3) := by decide +kernel
theorem dX12_town_238 : decode cX12_town 238 = .ok (.imul, 1) := by decide +kernel
theorem dX12_town_239 : decode cX12_town 239 = .ok (.aload_n 0, 1) := by decide +kernel
theorem dX12_town_240 : decode cX12_town 240 = .ok (.getfield 32, 3) := by decide +kernel
theorem dX12_town_243 : decode cX12_town 243 = .ok (.iconst 4, 1) := by decide +kernel
theorem dX12_town_244 : decode cX12_town 244 = .ok (.iload_n 3, 1) := by decide +kernel
theorem dX12_town_245 : decode cX12_town 245 = .ok (.imul, 1) := by decide +kernel
theorem dX12_town_246 : decode cX12_town 246 = .ok (.iconst 1, 1) := by decide +kernel
theorem dX12_town_247 : decode cX12_town 247 = .ok (.iadd, 1) := by decide +kernel
theorem dX12_town_248 : decode cX12_town 248 = .ok (.iaload, 1) := by decide +kernel
theorem dX12_town_249 : decode cX12_town 249 = .ok (.iastore, 1) := by decide +kernel
theorem dX12_town_250 : decode cX12_town 250 = .ok (.aload_n 0, 1) := by decide +kernel
theorem dX12_town_251 : decode cX12_town 251 = .ok (.getfield 16, 3) := by decide +kernel
theorem dX12_town_254 : decode cX12_town 254 = .ok (.iconst 2, 1) := by decide +kernel
theorem dX12_town_255 : decode cX12_town 255 = .ok (.aload_n 0, 1) := by decide +kernel
theorem dX12_town_256 : decode cX12_town 256 = .ok (.getfield 94, 3) := by decide +kernel
theorem dX12_town_259 : decode cX12_town 259 = .ok (.imul, 1) := by decide +kernel
theorem dX12_town_260 : decode cX12_town 260 = .ok (.iconst 1, 1) := by decide +kernel
theorem dX12_town_261 : decode cX12_town 261 = .ok (.iadd, 1) := by decide +kernel
theorem dX12_town_262 : decode cX12_town 262 = .ok (.aload_n 0, 1) := by decide +kernel
theorem dX12_town_263 : decode cX12_town 263 = .ok (.getfield 32, 3) := by decide +kernel
theorem dX12_town_266 : decode cX12_town 266 = .ok (.iconst 4, 1) := by decide +kernel
theorem dX12_town_267 : decode cX12_town 267 = .ok (.iload_n 3, 1) := by decide +kernel
theorem dX12_town_268 : decode cX12_town 268 = .ok (.imul, 1) := by decide +kernel
theorem dX12_town_269 : decode cX12_town 269 = .ok (.iconst 2, 1) := by decide +kernel
theorem dX12_town_270 : decode cX12_town 270 = .ok (.iadd, 1) := by decide +kernel
theorem dX12_town_271 : decode cX12_town 271 = .ok (.iaload, 1) := by decide +kernel
theorem dX12_town_272 : decode cX12_town 272 = .ok (.iastore, 1) := by decide +kernel
theorem dX12_town_273 : decode cX12_town 273 = .ok (.aload_n 0, 1) := by decide +kernel
theorem dX12_town_274 : decode cX12_town 274 = .ok (.getfield 19, 3) := by decide +kernel
theorem dX12_town_277 : decode cX12_town 277 = .ok (.aload_n 0, 1) := by decide +kernel
theorem dX12_town_278 : decode cX12_town 278 = .ok (.getfield 94, 3) := by decide +kernel
theorem dX12_town_281 : decode cX12_town 281 = .ok (.aload_n 0, 1) := by decide +kernel
theorem dX12_town_282 : decode cX12_town 282 = .ok (.getfield 32, 3) := by decide +kernel
theorem dX12_town_285 : decode cX12_town 285 = .ok (.iconst 4, 1) := by decide +kernel
theorem dX12_town_286 : decode cX12_town 286 = .ok (.iload_n 3, 1) := by decide +kernel
theorem dX12_town_287 : decode cX12_town 287 = .ok (.imul, 1) := by decide +kernel
theorem dX12_town_288 : decode cX12_town 288 = .ok (.iconst 3, 1) := by decide +kernel
theorem dX12_town_289 : decode cX12_town 289 = .ok (.iadd, 1) := by decide +kernel
theorem dX12_town_290 : decode cX12_town 290 = .ok (.iaload, 1) := by decide +kernel
theorem dX12_town_291 : decode cX12_town 291 = .ok (.iastore, 1) := by decide +kernel
theorem dX12_town_292 : decode cX12_town 292 = .ok (.aload_n 0, 1) := by decide +kernel
theorem dX12_town_293 : decode cX12_town 293 = .ok (.dup, 1) := by decide +kernel
theorem dX12_town_294 : decode cX12_town 294 = .ok (.getfield 94, 3) := by decide +kernel
theorem dX12_town_297 : decode cX12_town 297 = .ok (.iconst 1, 1) := by decide +kernel
theorem dX12_town_298 : decode cX12_town 298 = .ok (.iadd, 1) := by decide +kernel
theorem dX12_town_299 : decode cX12_town 299 = .ok (.putfield 94, 3) := by decide +kernel
theorem dX12_town_302 : decode cX12_town 302 = .ok (.iinc 3 1, 3) := by decide +kernel
theorem dX12_town_305 : decode cX12_town 305 = .ok (.goto (-98), 3) := by decide +kernel
theorem dX12_town_308 : decode cX12_town 308 = .ok (.aload_n 0, 1) := by decide +kernel
theorem dX12_town_309 : decode cX12_town 309 = .ok (.iconst 0, 1) := by decide +kernel
theorem dX12_town_310 : decode cX12_town 310 = .ok (.putfield 151, 3) := by decide +kernel
theorem dX12_town_313 : decode cX12_town 313 = .ok (.aload_n 0, 1) := by decide +kernel
theorem dX12_town_314 : decode cX12_town 314 = .ok (.dup, 1) := by decide +kernel
theorem dX12_town_315 : decode cX12_town 315 = .ok (.getfield 154, 3) := by decide +kernel
theorem dX12_town_318 : decode cX12_town 318 = .ok (.iconst 1, 1) := by decide +kernel
theorem dX12_town_319 : decode cX12_town 319 = .ok (.iadd, 1) := by decide +kernel
theorem dX12_town_320 : decode cX12_town 320 = .ok (.putfield 154, 3) := by decide +kernel
theorem dX12_town_323 : decode cX12_town 323 = .ok (.iload_n 1, 1) := by decide +kernel
theorem dX12_town_324 : decode cX12_town 324 = .ok (.ireturn, 1) := by decide +kernel
def WX12_town (E : ENV) (q0 : Nat) (q0_now : Nat) (q0_hold : Nat) (q0_below : Nat) (q0_hay : Nat) (q0_weather : Nat) (q0_text : Nat) (q0_row : Nat) (q0_comes : Nat) (q0_rule : Nat) (q0_owedBy : Nat) (q0_undos : Nat) (q0_aside : Nat) (q0_acts : Nat) (q0_ring : Nat) (q0_bestRing : Nat) (q0_nets : Nat) (q0_worked : Nat) (q0_then : Nat) (q0_plan : Nat) (q0_bestPlan : Nat) (q0_tried : Nat) (q0_tracks : Nat) (q0_kept : Nat) (q0_isKept : Nat) (q0_keptCame : Nat) (i_houses : Int32) (i_weatherMany : Int32) (i_typed : Int32) (i_rowMany : Int32) (i_thrown : Int32) (r_read : Nat) (i_length : Int32) (i_top : Int32) (i_at : Int32) (i_wrong : Int32) (i_ruleSize : Int32) (i_isAsked : Int32) (i_askedInches : Int32) (i_askedPath : Int32) (i_askedDay : Int32) (i_askedRoof : Int32) (i_askedBelow : Int32) (i_askedLoose : Int32) (i_slidesMany : Int32) (i_owedNow : Int32) (i_slidInto : Int32) (i_undoMany : Int32) (i_bestLength : Int32) (i_setOff : Int32) (i_letLie : Int32) (i_trackMany : Int32) (i_came : Int32) (a_text : Nat → Int32) (a_comes : Nat → Int32) (a_hold : Nat → Int32) (a_below : Nat → Int32) (a_hay : Nat → Int32) : va_W := [(q0, .inr (12, [.ref q0_now, .int i_houses, .ref q0_hold, .ref q0_below, .ref q0_hay, .ref q0_weather, .int i_weatherMany, .ref q0_text, .int i_typed, .ref q0_row, .int i_rowMany, .int i_thrown, rdv r_read q0_text q0_rule, .int i_length, .int i_top, .int i_at, .int i_wrong, .ref q0_comes, .ref q0_rule, .int i_ruleSize, .int i_isAsked, .int i_askedInches, .int i_askedPath, .int i_askedDay, .int i_askedRoof, .int i_askedBelow, .int i_askedLoose, .int i_slidesMany, .int i_owedNow, .ref q0_owedBy, .int i_slidInto, .ref q0_undos, .int i_undoMany, .ref q0_aside, .ref q0_acts, .ref q0_ring, .ref q0_bestRing, .int i_bestLength, .ref q0_nets, .ref q0_worked, .ref q0_then, .ref q0_plan, .ref q0_bestPlan, .ref q0_tried, .int i_setOff, .int i_letLie, .ref q0_tracks, .int i_trackMany, .int i_came, .ref q0_kept, .ref q0_isKept, .ref q0_keptCame])), (q0_text, .inl (E.2.2.1, 80, .inl a_text)), (q0_comes, .inl (E.2.1, 28, .inl a_comes)), (q0_hold, .inl (E.2.1, 7, .inl a_hold)), (q0_below, .inl (E.2.1, 14, .inl a_below)), (q0_hay, .inl (E.2.1, 7, .inl a_hay))]
set_option maxHeartbeats 4000000 in
set_option maxRecDepth 20000 in
theorem kX12_town (l : Launch) (E : ENV) (q0 : Nat) (q0_now : Nat) (q0_hold : Nat) (q0_below : Nat) (q0_hay : Nat) (q0_weather : Nat) (q0_text : Nat) (q0_row : Nat) (q0_comes : Nat) (q0_rule : Nat) (q0_owedBy : Nat) (q0_undos : Nat) (q0_aside : Nat) (q0_acts : Nat) (q0_ring : Nat) (q0_bestRing : Nat) (q0_nets : Nat) (q0_worked : Nat) (q0_then : Nat) (q0_plan : Nat) (q0_bestPlan : Nat) (q0_tried : Nat) (q0_tracks : Nat) (q0_kept : Nat) (q0_isKept : Nat) (q0_keptCame : Nat) (i_houses : Int32) (i_weatherMany : Int32) (i_typed : Int32) (i_rowMany : Int32) (i_thrown : Int32) (r_read : Nat) (i_length : Int32) (i_top : Int32) (i_at : Int32) (i_wrong : Int32) (i_ruleSize : Int32) (i_isAsked : Int32) (i_askedInches : Int32) (i_askedPath : Int32) (i_askedDay : Int32) (i_askedRoof : Int32) (i_askedBelow : Int32) (i_askedLoose : Int32) (i_slidesMany : Int32) (i_owedNow : Int32) (i_slidInto : Int32) (i_undoMany : Int32) (i_bestLength : Int32) (i_setOff : Int32) (i_letLie : Int32) (i_trackMany : Int32) (i_came : Int32) (a_text : Nat → Int32) (a_comes : Nat → Int32) (a_hold : Nat → Int32) (a_below : Nat → Int32) (a_hay : Nat → Int32) (r9 : Int32) (i_houses9 : Int32) (i_typed9 : Int32) (i_thrown9 : Int32) (r_read9 : Nat) (i_length9 : Int32) (i_top9 : Int32) (i_at9 : Int32) (i_wrong9 : Int32) (i_undoMany9 : Int32) (i_came9 : Int32) (a_comes9 : Nat → Int32) (a_hold9 : Nat → Int32) (a_below9 : Nat → Int32) (a_hay9 : Nat → Int32) (hf : fX12_town i_houses i_typed i_thrown r_read i_length i_top i_at i_wrong i_undoMany i_came a_text a_comes a_hold a_below a_hay = some (r9, i_houses9, i_typed9, i_thrown9, r_read9, i_length9, i_top9, i_at9, i_wrong9, i_undoMany9, i_came9, a_comes9, a_hold9, a_below9, a_hay9)) : CI l E yX12_town cX12_town 4 (some .int) 3 [.ref q0] (WX12_town E q0 q0_now q0_hold q0_below q0_hay q0_weather q0_text q0_row q0_comes q0_rule q0_owedBy q0_undos q0_aside q0_acts q0_ring q0_bestRing q0_nets q0_worked q0_then q0_plan q0_bestPlan q0_tried q0_tracks q0_kept q0_isKept q0_keptCame i_houses i_weatherMany i_typed i_rowMany i_thrown r_read i_length i_top i_at i_wrong i_ruleSize i_isAsked i_askedInches i_askedPath i_askedDay i_askedRoof i_askedBelow i_askedLoose i_slidesMany i_owedNow i_slidInto i_undoMany i_bestLength i_setOff i_letLie i_trackMany i_came a_text a_comes a_hold a_below a_hay) (WX12_town E q0 q0_now q0_hold q0_below q0_hay q0_weather q0_text q0_row q0_comes q0_rule q0_owedBy q0_undos q0_aside q0_acts q0_ring q0_bestRing q0_nets q0_worked q0_then q0_plan q0_bestPlan q0_tried q0_tracks q0_kept q0_isKept q0_keptCame i_houses9 i_weatherMany i_typed9 i_rowMany i_thrown9 r_read9 i_length9 i_top9 i_at9 i_wrong9 i_ruleSize i_isAsked i_askedInches i_askedPath i_askedDay i_askedRoof i_askedBelow i_askedLoose i_slidesMany i_owedNow i_slidInto i_undoMany9 i_bestLength i_setOff i_letLie i_trackMany i_came9 a_text a_comes9 a_hold9 a_below9 a_hay9) r9 := by
  refine begI (by decide +kernel) (Nat.le_of_ble_eq_true rfl) ?_
  intro p e s m args below meth c A Q C hA hret
  have hx := C.1
  have hb := C.2.1
  have L37 : ∀ (i_houses : Int32) (i_typed : Int32) (i_thrown : Int32) (i_length : Int32) (i_top : Int32) (i_undoMany : Int32) (i_came : Int32) (a_hold : Nat → Int32) (a_below : Nat → Int32) (a_hay : Nat → Int32), ∀ (n : Nat) (v1 : Int32) (v2 : Int32) (i_at : Int32) (i_wrong : Int32) (a_comes : Nat → Int32) (o : Int32 × Int32 × Int32 × (Nat → Int32)), fX12_town_L37 a_text i_houses i_length i_top n v1 v2 i_at i_wrong a_comes = some o → (GO p l e 3 s m args below meth c Q E A 4 172 [] [(0, .ref q0), (1, .int o.1)] (WX12_town E q0 q0_now q0_hold q0_below q0_hay q0_weather q0_text q0_row q0_comes q0_rule q0_owedBy q0_undos q0_aside q0_acts q0_ring q0_bestRing q0_nets q0_worked q0_then q0_plan q0_bestPlan q0_tried q0_tracks q0_kept q0_isKept q0_keptCame i_houses i_weatherMany i_typed i_rowMany i_thrown 1 i_length i_top o.2.1 o.2.2.1 i_ruleSize i_isAsked i_askedInches i_askedPath i_askedDay i_askedRoof i_askedBelow i_askedLoose i_slidesMany i_owedNow i_slidInto i_undoMany i_bestLength i_setOff i_letLie i_trackMany i_came a_text o.2.2.2 a_hold a_below a_hay)) → GO p l e 3 s m args below meth c Q E A 4 37 [] [(0, .ref q0), (1, .int v1), (2, .int v2)] (WX12_town E q0 q0_now q0_hold q0_below q0_hay q0_weather q0_text q0_row q0_comes q0_rule q0_owedBy q0_undos q0_aside q0_acts q0_ring q0_bestRing q0_nets q0_worked q0_then q0_plan q0_bestPlan q0_tried q0_tracks q0_kept q0_isKept q0_keptCame i_houses i_weatherMany i_typed i_rowMany i_thrown 1 i_length i_top i_at i_wrong i_ruleSize i_isAsked i_askedInches i_askedPath i_askedDay i_askedRoof i_askedBelow i_askedLoose i_slidesMany i_owedNow i_slidInto i_undoMany i_bestLength i_setOff i_letLie i_trackMany i_came a_text a_comes a_hold a_below a_hay) := by
    intro i_houses i_typed i_thrown i_length i_top i_undoMany i_came a_hold a_below a_hay
    intro n
    induction n with
    | zero =>
      intro v1 v2 i_at i_wrong a_comes o hf
      have hf : none = some o := hf
      cases hf
    | succ n ih =>
      intro v1 v2 i_at i_wrong a_comes o hf hE
      have J158 : ∀ (v1 : Int32) (s0 : Int32) (s1 : Int32) (i_at : Int32) (i_wrong : Int32) (a_comes : Nat → Int32), fX12_town_J158 (fX12_town_L37 a_text i_houses i_length i_top n) a_text i_length i_top v1 s0 s1 i_at i_wrong a_comes = some o → GO p l e 3 s m args below meth c Q E A 4 158 [.int s0, .int s1, .ref q0_comes] [(0, .ref q0), (1, .int v1)] (WX12_town E q0 q0_now q0_hold q0_below q0_hay q0_weather q0_text q0_row q0_comes q0_rule q0_owedBy q0_undos q0_aside q0_acts q0_ring q0_bestRing q0_nets q0_worked q0_then q0_plan q0_bestPlan q0_tried q0_tracks q0_kept q0_isKept q0_keptCame i_houses i_weatherMany i_typed i_rowMany i_thrown 1 i_length i_top i_at i_wrong i_ruleSize i_isAsked i_askedInches i_askedPath i_askedDay i_askedRoof i_askedBelow i_askedLoose i_slidesMany i_owedNow i_slidInto i_undoMany i_bestLength i_setOff i_letLie i_trackMany i_came a_text a_comes a_hold a_below a_hay) := by
        intro v1 s0 s1 i_at i_wrong a_comes hf H locs ls hl hP hD hS
        unfold fX12_town_J158 at hf
        obtain ⟨g23, hf⟩ := gd_some hf
        refine va_iast hx hb C.2.2.2.2.2.1 hP hD hS 2 0 rfl rfl (vin_in g23) dX12_town_158 (fun H locs hP hD hS => ?_)
        have hP : va_P E.1 classes (WX12_town E q0 q0_now q0_hold q0_below q0_hay q0_weather q0_text q0_row q0_comes q0_rule q0_owedBy q0_undos q0_aside q0_acts q0_ring q0_bestRing q0_nets q0_worked q0_then q0_plan q0_bestPlan q0_tried q0_tracks q0_kept q0_isKept q0_keptCame i_houses i_weatherMany i_typed i_rowMany i_thrown 1 i_length i_top i_at i_wrong i_ruleSize i_isAsked i_askedInches i_askedPath i_askedDay i_askedRoof i_askedBelow i_askedLoose i_slidesMany i_owedNow i_slidInto i_undoMany i_bestLength i_setOff i_letLie i_trackMany i_came a_text ((upd a_comes (s1 : Int32).toNatClampNeg s0)) a_hold a_below a_hay) H := hP
        have hD : va_D A (WX12_town E q0 q0_now q0_hold q0_below q0_hay q0_weather q0_text q0_row q0_comes q0_rule q0_owedBy q0_undos q0_aside q0_acts q0_ring q0_bestRing q0_nets q0_worked q0_then q0_plan q0_bestPlan q0_tried q0_tracks q0_kept q0_isKept q0_keptCame i_houses i_weatherMany i_typed i_rowMany i_thrown 1 i_length i_top i_at i_wrong i_ruleSize i_isAsked i_askedInches i_askedPath i_askedDay i_askedRoof i_askedBelow i_askedLoose i_slidesMany i_owedNow i_slidInto i_undoMany i_bestLength i_setOff i_letLie i_trackMany i_came a_text ((upd a_comes (s1 : Int32).toNatClampNeg s0)) a_hold a_below a_hay) := hD
        refine lv_iinc (v := (v1 + 1)) (lv' := [(1, .int ((v1 + 1))), (0, .ref q0)]) hx hb dX12_town_159 hl (k := 1) rfl rfl (by decide) rfl (fun ls hl => ?_)
        refine lv_aload_n hx hb dX12_town_162 rfl (lv_at hl 1 rfl) ?_
        refine lv_bipush (v := 59) hx hb dX12_town_163 (by decide) ?_
        obtain ⟨o24, hg25, hf⟩ := bd_some hf
        refine k_VI (As := [.int 59]) C K_RX12_131 (Nat.le_of_ble_eq_true rfl) (Nat.le_of_ble_eq_true rfl) (kX12_passes l E q0 q0_now q0_hold q0_below q0_hay q0_weather q0_text q0_row q0_text q0_comes q0_rule q0_owedBy q0_undos q0_aside q0_acts q0_ring q0_bestRing q0_nets q0_worked q0_then q0_plan q0_bestPlan q0_tried q0_tracks q0_kept q0_isKept q0_keptCame 80 i_houses i_weatherMany i_typed i_rowMany i_thrown i_length i_top i_at i_wrong i_ruleSize i_isAsked i_askedInches i_askedPath i_askedDay i_askedRoof i_askedBelow i_askedLoose i_slidesMany i_owedNow i_slidInto i_undoMany i_bestLength i_setOff i_letLie i_trackMany i_came a_text 59 o24.1 o24.2 hg25) [0, 1] rfl rfl rfl (ci := 12) rfl rfl (q0 := 0) rfl hP hD hS hA hl.1 (Nat.le_of_ble_eq_true rfl) rfl dX12_town_165 (fun H locs hP hD hS => ?_)
        have hP : va_P E.1 classes (WX12_town E q0 q0_now q0_hold q0_below q0_hay q0_weather q0_text q0_row q0_comes q0_rule q0_owedBy q0_undos q0_aside q0_acts q0_ring q0_bestRing q0_nets q0_worked q0_then q0_plan q0_bestPlan q0_tried q0_tracks q0_kept q0_isKept q0_keptCame i_houses i_weatherMany i_typed i_rowMany i_thrown 1 i_length i_top o24.2 i_wrong i_ruleSize i_isAsked i_askedInches i_askedPath i_askedDay i_askedRoof i_askedBelow i_askedLoose i_slidesMany i_owedNow i_slidInto i_undoMany i_bestLength i_setOff i_letLie i_trackMany i_came a_text ((upd a_comes (s1 : Int32).toNatClampNeg s0)) a_hold a_below a_hay) H := hP
        have hD : va_D A (WX12_town E q0 q0_now q0_hold q0_below q0_hay q0_weather q0_text q0_row q0_comes q0_rule q0_owedBy q0_undos q0_aside q0_acts q0_ring q0_bestRing q0_nets q0_worked q0_then q0_plan q0_bestPlan q0_tried q0_tracks q0_kept q0_isKept q0_keptCame i_houses i_weatherMany i_typed i_rowMany i_thrown 1 i_length i_top o24.2 i_wrong i_ruleSize i_isAsked i_askedInches i_askedPath i_askedDay i_askedRoof i_askedBelow i_askedLoose i_slidesMany i_owedNow i_slidInto i_undoMany i_bestLength i_setOff i_letLie i_trackMany i_came a_text ((upd a_comes (s1 : Int32).toNatClampNeg s0)) a_hold a_below a_hay) := hD
        refine lv_istore_n (lv' := [(2, .int o24.1), (1, .int ((v1 + 1))), (0, .ref q0)]) hx hb dX12_town_168 rfl hl (by decide) rfl (fun ls hl => ?_)
        refine lv_goto (tgt := 37) hx hb dX12_town_169 (by decide) ?_
        exact ih ((v1 + 1)) o24.1 o24.2 i_wrong ((upd a_comes (s1 : Int32).toNatClampNeg s0)) _ hf hE _ _ _ (lv_sub hl [2, 1, 0] rfl) hP hD hS
      intro H locs ls hl hP hD hS
      rw [fX12_town_L37] at hf
      refine lv_iload_n hx hb dX12_town_37 rfl (lv_at hl 2 rfl) ?_
      refine lv_if_eq (tgt := 172) hx hb dX12_town_38 (by decide) (fun c4 => ?_) (fun c4 => ?_)
      · rw [if_pos c4] at hf
        have hf := Option.some.inj hf
        subst hf
        exact hE _ _ _ (lv_sub hl [0, 1] rfl) hP hD hS
      · rw [if_neg c4] at hf
        refine lv_aload_n hx hb dX12_town_41 rfl (lv_at hl 0 rfl) ?_
        obtain ⟨o5, hg6, hf⟩ := bd_some hf
        refine k_VI (As := []) C K_RX12_123 (Nat.le_of_ble_eq_true rfl) (Nat.le_of_ble_eq_true rfl) (kX12_fine l E q0 q0_now q0_hold q0_below q0_hay q0_weather q0_text q0_row q0_comes q0_rule q0_owedBy q0_undos q0_aside q0_acts q0_ring q0_bestRing q0_nets q0_worked q0_then q0_plan q0_bestPlan q0_tried q0_tracks q0_kept q0_isKept q0_keptCame i_houses i_weatherMany i_typed i_rowMany i_thrown ((rdv 1 q0_text q0_rule)) i_length i_top i_at i_wrong i_ruleSize i_isAsked i_askedInches i_askedPath i_askedDay i_askedRoof i_askedBelow i_askedLoose i_slidesMany i_owedNow i_slidInto i_undoMany i_bestLength i_setOff i_letLie i_trackMany i_came o5 hg6) [0] rfl rfl rfl (ci := 12) rfl rfl (q0 := 0) rfl hP hD hS hA hl.1 (Nat.le_of_ble_eq_true rfl) rfl dX12_town_42 (fun H locs hP hD hS => ?_)
        have hP : va_P E.1 classes (WX12_town E q0 q0_now q0_hold q0_below q0_hay q0_weather q0_text q0_row q0_comes q0_rule q0_owedBy q0_undos q0_aside q0_acts q0_ring q0_bestRing q0_nets q0_worked q0_then q0_plan q0_bestPlan q0_tried q0_tracks q0_kept q0_isKept q0_keptCame i_houses i_weatherMany i_typed i_rowMany i_thrown 1 i_length i_top i_at i_wrong i_ruleSize i_isAsked i_askedInches i_askedPath i_askedDay i_askedRoof i_askedBelow i_askedLoose i_slidesMany i_owedNow i_slidInto i_undoMany i_bestLength i_setOff i_letLie i_trackMany i_came a_text a_comes a_hold a_below a_hay) H := hP
        have hD : va_D A (WX12_town E q0 q0_now q0_hold q0_below q0_hay q0_weather q0_text q0_row q0_comes q0_rule q0_owedBy q0_undos q0_aside q0_acts q0_ring q0_bestRing q0_nets q0_worked q0_then q0_plan q0_bestPlan q0_tried q0_tracks q0_kept q0_isKept q0_keptCame i_houses i_weatherMany i_typed i_rowMany i_thrown 1 i_length i_top i_at i_wrong i_ruleSize i_isAsked i_askedInches i_askedPath i_askedDay i_askedRoof i_askedBelow i_askedLoose i_slidesMany i_owedNow i_slidInto i_undoMany i_bestLength i_setOff i_letLie i_trackMany i_came a_text a_comes a_hold a_below a_hay) := hD
        refine lv_if_eq (tgt := 172) hx hb dX12_town_45 (by decide) (fun c7 => ?_) (fun c7 => ?_)
        · rw [if_pos c7] at hf
          have hf := Option.some.inj hf
          subst hf
          exact hE _ _ _ (lv_sub hl [0, 1] rfl) hP hD hS
        · rw [if_neg c7] at hf
          refine lv_aload_n hx hb dX12_town_48 rfl (lv_at hl 0 rfl) ?_
          refine gf_RX12_94 C hP 0 rfl rfl dX12_town_49 ?_
          refine lv_iload_n hx hb dX12_town_52 rfl (lv_at hl 1 rfl) ?_
          refine lv_iadd hx hb dX12_town_53 ?_
          refine lv_bipush (v := 7) hx hb dX12_town_54 (by decide) ?_
          refine lv_icmp_ne (tgt := 70) hx hb dX12_town_56 (by decide) (fun c8 => ?_) (fun c8 => ?_)
          · rw [if_neg c8] at hf
            refine lv_aload_n hx hb dX12_town_70 rfl (lv_at hl 0 rfl) ?_
            refine gf_RX12_32 C hP 0 rfl rfl dX12_town_71 ?_
            refine lv_iconst (v := 4) hx hb dX12_town_74 (by decide) ?_
            refine lv_iload_n hx hb dX12_town_75 rfl (lv_at hl 1 rfl) ?_
            refine lv_imul hx hb dX12_town_76 ?_
            refine lv_aload_n hx hb dX12_town_77 rfl (lv_at hl 0 rfl) ?_
            refine lv_iconst (v := 2) hx hb dX12_town_78 (by decide) ?_
            refine lv_iconst (v := 1) hx hb dX12_town_79 (by decide) ?_
            refine lv_bipush (v := 99) hx hb dX12_town_80 (by decide) ?_
            obtain ⟨o9, hg10, hf⟩ := bd_some hf
            refine k_VI (As := [.int 2, .int 1, .int 99]) C K_RX12_143 (Nat.le_of_ble_eq_true rfl) (Nat.le_of_ble_eq_true rfl) (kX12_number l E q0 q0_now q0_hold q0_below q0_hay q0_weather q0_text q0_row q0_text q0_comes q0_rule q0_owedBy q0_undos q0_aside q0_acts q0_ring q0_bestRing q0_nets q0_worked q0_then q0_plan q0_bestPlan q0_tried q0_tracks q0_kept q0_isKept q0_keptCame 80 i_houses i_weatherMany i_typed i_rowMany i_thrown i_length i_top i_at i_wrong i_ruleSize i_isAsked i_askedInches i_askedPath i_askedDay i_askedRoof i_askedBelow i_askedLoose i_slidesMany i_owedNow i_slidInto i_undoMany i_bestLength i_setOff i_letLie i_trackMany i_came a_text 2 1 99 o9.1 o9.2.1 o9.2.2 hg10) [0, 1] rfl rfl rfl (ci := 12) rfl rfl (q0 := 0) rfl hP hD hS hA hl.1 (Nat.le_of_ble_eq_true rfl) rfl dX12_town_82 (fun H locs hP hD hS => ?_)
            have hP : va_P E.1 classes (WX12_town E q0 q0_now q0_hold q0_below q0_hay q0_weather q0_text q0_row q0_comes q0_rule q0_owedBy q0_undos q0_aside q0_acts q0_ring q0_bestRing q0_nets q0_worked q0_then q0_plan q0_bestPlan q0_tried q0_tracks q0_kept q0_isKept q0_keptCame i_houses i_weatherMany i_typed i_rowMany i_thrown 1 i_length i_top o9.2.1 o9.2.2 i_ruleSize i_isAsked i_askedInches i_askedPath i_askedDay i_askedRoof i_askedBelow i_askedLoose i_slidesMany i_owedNow i_slidInto i_undoMany i_bestLength i_setOff i_letLie i_trackMany i_came a_text a_comes a_hold a_below a_hay) H := hP
            have hD : va_D A (WX12_town E q0 q0_now q0_hold q0_below q0_hay q0_weather q0_text q0_row q0_comes q0_rule q0_owedBy q0_undos q0_aside q0_acts q0_ring q0_bestRing q0_nets q0_worked q0_then q0_plan q0_bestPlan q0_tried q0_tracks q0_kept q0_isKept q0_keptCame i_houses i_weatherMany i_typed i_rowMany i_thrown 1 i_length i_top o9.2.1 o9.2.2 i_ruleSize i_isAsked i_askedInches i_askedPath i_askedDay i_askedRoof i_askedBelow i_askedLoose i_slidesMany i_owedNow i_slidInto i_undoMany i_bestLength i_setOff i_letLie i_trackMany i_came a_text a_comes a_hold a_below a_hay) := hD
            obtain ⟨g11, hf⟩ := gd_some hf
            refine va_iast hx hb C.2.2.2.2.2.1 hP hD hS 2 0 rfl rfl (vin_in g11) dX12_town_85 (fun H locs hP hD hS => ?_)
            have hP : va_P E.1 classes (WX12_town E q0 q0_now q0_hold q0_below q0_hay q0_weather q0_text q0_row q0_comes q0_rule q0_owedBy q0_undos q0_aside q0_acts q0_ring q0_bestRing q0_nets q0_worked q0_then q0_plan q0_bestPlan q0_tried q0_tracks q0_kept q0_isKept q0_keptCame i_houses i_weatherMany i_typed i_rowMany i_thrown 1 i_length i_top o9.2.1 o9.2.2 i_ruleSize i_isAsked i_askedInches i_askedPath i_askedDay i_askedRoof i_askedBelow i_askedLoose i_slidesMany i_owedNow i_slidInto i_undoMany i_bestLength i_setOff i_letLie i_trackMany i_came a_text ((upd a_comes ((4 * v1) : Int32).toNatClampNeg o9.1)) a_hold a_below a_hay) H := hP
            have hD : va_D A (WX12_town E q0 q0_now q0_hold q0_below q0_hay q0_weather q0_text q0_row q0_comes q0_rule q0_owedBy q0_undos q0_aside q0_acts q0_ring q0_bestRing q0_nets q0_worked q0_then q0_plan q0_bestPlan q0_tried q0_tracks q0_kept q0_isKept q0_keptCame i_houses i_weatherMany i_typed i_rowMany i_thrown 1 i_length i_top o9.2.1 o9.2.2 i_ruleSize i_isAsked i_askedInches i_askedPath i_askedDay i_askedRoof i_askedBelow i_askedLoose i_slidesMany i_owedNow i_slidInto i_undoMany i_bestLength i_setOff i_letLie i_trackMany i_came a_text ((upd a_comes ((4 * v1) : Int32).toNatClampNeg o9.1)) a_hold a_below a_hay) := hD
            refine lv_aload_n hx hb dX12_town_86 rfl (lv_at hl 0 rfl) ?_
            refine lv_bipush (v := 44) hx hb dX12_town_87 (by decide) ?_
            obtain ⟨o12, hg13, hf⟩ := bd_some hf
            refine k_VV (As := [.int 44]) C K_RX12_147 (Nat.le_of_ble_eq_true rfl) (Nat.le_of_ble_eq_true rfl) (kX12_need l E q0 q0_now q0_hold q0_below q0_hay q0_weather q0_text q0_row q0_text q0_comes q0_rule q0_owedBy q0_undos q0_aside q0_acts q0_ring q0_bestRing q0_nets q0_worked q0_then q0_plan q0_bestPlan q0_tried q0_tracks q0_kept q0_isKept q0_keptCame 80 i_houses i_weatherMany i_typed i_rowMany i_thrown i_length i_top o9.2.1 o9.2.2 i_ruleSize i_isAsked i_askedInches i_askedPath i_askedDay i_askedRoof i_askedBelow i_askedLoose i_slidesMany i_owedNow i_slidInto i_undoMany i_bestLength i_setOff i_letLie i_trackMany i_came a_text 44 o12.1 o12.2 hg13) [0, 1] rfl rfl rfl (ci := 12) rfl rfl (q0 := 0) rfl hP hD hS hA hl.1 (Nat.le_of_ble_eq_true rfl) rfl dX12_town_89 (fun H locs hP hD hS => ?_)
            have hP : va_P E.1 classes (WX12_town E q0 q0_now q0_hold q0_below q0_hay q0_weather q0_text q0_row q0_comes q0_rule q0_owedBy q0_undos q0_aside q0_acts q0_ring q0_bestRing q0_nets q0_worked q0_then q0_plan q0_bestPlan q0_tried q0_tracks q0_kept q0_isKept q0_keptCame i_houses i_weatherMany i_typed i_rowMany i_thrown 1 i_length i_top o12.1 o12.2 i_ruleSize i_isAsked i_askedInches i_askedPath i_askedDay i_askedRoof i_askedBelow i_askedLoose i_slidesMany i_owedNow i_slidInto i_undoMany i_bestLength i_setOff i_letLie i_trackMany i_came a_text ((upd a_comes ((4 * v1) : Int32).toNatClampNeg o9.1)) a_hold a_below a_hay) H := hP
            have hD : va_D A (WX12_town E q0 q0_now q0_hold q0_below q0_hay q0_weather q0_text q0_row q0_comes q0_rule q0_owedBy q0_undos q0_aside q0_acts q0_ring q0_bestRing q0_nets q0_worked q0_then q0_plan q0_bestPlan q0_tried q0_tracks q0_kept q0_isKept q0_keptCame i_houses i_weatherMany i_typed i_rowMany i_thrown 1 i_length i_top o12.1 o12.2 i_ruleSize i_isAsked i_askedInches i_askedPath i_askedDay i_askedRoof i_askedBelow i_askedLoose i_slidesMany i_owedNow i_slidInto i_undoMany i_bestLength i_setOff i_letLie i_trackMany i_came a_text ((upd a_comes ((4 * v1) : Int32).toNatClampNeg o9.1)) a_hold a_below a_hay) := hD
            refine lv_aload_n hx hb dX12_town_92 rfl (lv_at hl 0 rfl) ?_
            refine gf_RX12_32 C hP 0 rfl rfl dX12_town_93 ?_
            refine lv_iconst (v := 4) hx hb dX12_town_96 (by decide) ?_
            refine lv_iload_n hx hb dX12_town_97 rfl (lv_at hl 1 rfl) ?_
            refine lv_imul hx hb dX12_town_98 ?_
            refine lv_iconst (v := 1) hx hb dX12_town_99 (by decide) ?_
            refine lv_iadd hx hb dX12_town_100 ?_
            refine lv_aload_n hx hb dX12_town_101 rfl (lv_at hl 0 rfl) ?_
            refine lv_iconst (v := 1) hx hb dX12_town_102 (by decide) ?_
            refine lv_iconst (v := 0) hx hb dX12_town_103 (by decide) ?_
            refine lv_bipush (v := 6) hx hb dX12_town_104 (by decide) ?_
            obtain ⟨o14, hg15, hf⟩ := bd_some hf
            refine k_VI (As := [.int 1, .int 0, .int 6]) C K_RX12_143 (Nat.le_of_ble_eq_true rfl) (Nat.le_of_ble_eq_true rfl) (kX12_number l E q0 q0_now q0_hold q0_below q0_hay q0_weather q0_text q0_row q0_text q0_comes q0_rule q0_owedBy q0_undos q0_aside q0_acts q0_ring q0_bestRing q0_nets q0_worked q0_then q0_plan q0_bestPlan q0_tried q0_tracks q0_kept q0_isKept q0_keptCame 80 i_houses i_weatherMany i_typed i_rowMany i_thrown i_length i_top o12.1 o12.2 i_ruleSize i_isAsked i_askedInches i_askedPath i_askedDay i_askedRoof i_askedBelow i_askedLoose i_slidesMany i_owedNow i_slidInto i_undoMany i_bestLength i_setOff i_letLie i_trackMany i_came a_text 1 0 6 o14.1 o14.2.1 o14.2.2 hg15) [0, 1] rfl rfl rfl (ci := 12) rfl rfl (q0 := 0) rfl hP hD hS hA hl.1 (Nat.le_of_ble_eq_true rfl) rfl dX12_town_106 (fun H locs hP hD hS => ?_)
            have hP : va_P E.1 classes (WX12_town E q0 q0_now q0_hold q0_below q0_hay q0_weather q0_text q0_row q0_comes q0_rule q0_owedBy q0_undos q0_aside q0_acts q0_ring q0_bestRing q0_nets q0_worked q0_then q0_plan q0_bestPlan q0_tried q0_tracks q0_kept q0_isKept q0_keptCame i_houses i_weatherMany i_typed i_rowMany i_thrown 1 i_length i_top o14.2.1 o14.2.2 i_ruleSize i_isAsked i_askedInches i_askedPath i_askedDay i_askedRoof i_askedBelow i_askedLoose i_slidesMany i_owedNow i_slidInto i_undoMany i_bestLength i_setOff i_letLie i_trackMany i_came a_text ((upd a_comes ((4 * v1) : Int32).toNatClampNeg o9.1)) a_hold a_below a_hay) H := hP
            have hD : va_D A (WX12_town E q0 q0_now q0_hold q0_below q0_hay q0_weather q0_text q0_row q0_comes q0_rule q0_owedBy q0_undos q0_aside q0_acts q0_ring q0_bestRing q0_nets q0_worked q0_then q0_plan q0_bestPlan q0_tried q0_tracks q0_kept q0_isKept q0_keptCame i_houses i_weatherMany i_typed i_rowMany i_thrown 1 i_length i_top o14.2.1 o14.2.2 i_ruleSize i_isAsked i_askedInches i_askedPath i_askedDay i_askedRoof i_askedBelow i_askedLoose i_slidesMany i_owedNow i_slidInto i_undoMany i_bestLength i_setOff i_letLie i_trackMany i_came a_text ((upd a_comes ((4 * v1) : Int32).toNatClampNeg o9.1)) a_hold a_below a_hay) := hD
            obtain ⟨g16, hf⟩ := gd_some hf
            refine va_iast hx hb C.2.2.2.2.2.1 hP hD hS 2 0 rfl rfl (vin_in g16) dX12_town_109 (fun H locs hP hD hS => ?_)
            have hP : va_P E.1 classes (WX12_town E q0 q0_now q0_hold q0_below q0_hay q0_weather q0_text q0_row q0_comes q0_rule q0_owedBy q0_undos q0_aside q0_acts q0_ring q0_bestRing q0_nets q0_worked q0_then q0_plan q0_bestPlan q0_tried q0_tracks q0_kept q0_isKept q0_keptCame i_houses i_weatherMany i_typed i_rowMany i_thrown 1 i_length i_top o14.2.1 o14.2.2 i_ruleSize i_isAsked i_askedInches i_askedPath i_askedDay i_askedRoof i_askedBelow i_askedLoose i_slidesMany i_owedNow i_slidInto i_undoMany i_bestLength i_setOff i_letLie i_trackMany i_came a_text ((upd ((upd a_comes ((4 * v1) : Int32).toNatClampNeg o9.1)) ((((4 * v1)) + 1) : Int32).toNatClampNeg o14.1)) a_hold a_below a_hay) H := hP
            have hD : va_D A (WX12_town E q0 q0_now q0_hold q0_below q0_hay q0_weather q0_text q0_row q0_comes q0_rule q0_owedBy q0_undos q0_aside q0_acts q0_ring q0_bestRing q0_nets q0_worked q0_then q0_plan q0_bestPlan q0_tried q0_tracks q0_kept q0_isKept q0_keptCame i_houses i_weatherMany i_typed i_rowMany i_thrown 1 i_length i_top o14.2.1 o14.2.2 i_ruleSize i_isAsked i_askedInches i_askedPath i_askedDay i_askedRoof i_askedBelow i_askedLoose i_slidesMany i_owedNow i_slidInto i_undoMany i_bestLength i_setOff i_letLie i_trackMany i_came a_text ((upd ((upd a_comes ((4 * v1) : Int32).toNatClampNeg o9.1)) ((((4 * v1)) + 1) : Int32).toNatClampNeg o14.1)) a_hold a_below a_hay) := hD
            refine lv_aload_n hx hb dX12_town_110 rfl (lv_at hl 0 rfl) ?_
            refine gf_RX12_32 C hP 0 rfl rfl dX12_town_111 ?_
            refine lv_iconst (v := 4) hx hb dX12_town_114 (by decide) ?_
            refine lv_iload_n hx hb dX12_town_115 rfl (lv_at hl 1 rfl) ?_
            refine lv_imul hx hb dX12_town_116 ?_
            refine lv_iconst (v := 2) hx hb dX12_town_117 (by decide) ?_
            refine lv_iadd hx hb dX12_town_118 ?_
            refine lv_aload_n hx hb dX12_town_119 rfl (lv_at hl 0 rfl) ?_
            refine lv_iconst (v := 1) hx hb dX12_town_120 (by decide) ?_
            refine lv_iconst (v := 0) hx hb dX12_town_121 (by decide) ?_
            refine lv_bipush (v := 6) hx hb dX12_town_122 (by decide) ?_
            obtain ⟨o17, hg18, hf⟩ := bd_some hf
            refine k_VI (As := [.int 1, .int 0, .int 6]) C K_RX12_143 (Nat.le_of_ble_eq_true rfl) (Nat.le_of_ble_eq_true rfl) (kX12_number l E q0 q0_now q0_hold q0_below q0_hay q0_weather q0_text q0_row q0_text q0_comes q0_rule q0_owedBy q0_undos q0_aside q0_acts q0_ring q0_bestRing q0_nets q0_worked q0_then q0_plan q0_bestPlan q0_tried q0_tracks q0_kept q0_isKept q0_keptCame 80 i_houses i_weatherMany i_typed i_rowMany i_thrown i_length i_top o14.2.1 o14.2.2 i_ruleSize i_isAsked i_askedInches i_askedPath i_askedDay i_askedRoof i_askedBelow i_askedLoose i_slidesMany i_owedNow i_slidInto i_undoMany i_bestLength i_setOff i_letLie i_trackMany i_came a_text 1 0 6 o17.1 o17.2.1 o17.2.2 hg18) [0, 1] rfl rfl rfl (ci := 12) rfl rfl (q0 := 0) rfl hP hD hS hA hl.1 (Nat.le_of_ble_eq_true rfl) rfl dX12_town_124 (fun H locs hP hD hS => ?_)
            have hP : va_P E.1 classes (WX12_town E q0 q0_now q0_hold q0_below q0_hay q0_weather q0_text q0_row q0_comes q0_rule q0_owedBy q0_undos q0_aside q0_acts q0_ring q0_bestRing q0_nets q0_worked q0_then q0_plan q0_bestPlan q0_tried q0_tracks q0_kept q0_isKept q0_keptCame i_houses i_weatherMany i_typed i_rowMany i_thrown 1 i_length i_top o17.2.1 o17.2.2 i_ruleSize i_isAsked i_askedInches i_askedPath i_askedDay i_askedRoof i_askedBelow i_askedLoose i_slidesMany i_owedNow i_slidInto i_undoMany i_bestLength i_setOff i_letLie i_trackMany i_came a_text ((upd ((upd a_comes ((4 * v1) : Int32).toNatClampNeg o9.1)) ((((4 * v1)) + 1) : Int32).toNatClampNeg o14.1)) a_hold a_below a_hay) H := hP
            have hD : va_D A (WX12_town E q0 q0_now q0_hold q0_below q0_hay q0_weather q0_text q0_row q0_comes q0_rule q0_owedBy q0_undos q0_aside q0_acts q0_ring q0_bestRing q0_nets q0_worked q0_then q0_plan q0_bestPlan q0_tried q0_tracks q0_kept q0_isKept q0_keptCame i_houses i_weatherMany i_typed i_rowMany i_thrown 1 i_length i_top o17.2.1 o17.2.2 i_ruleSize i_isAsked i_askedInches i_askedPath i_askedDay i_askedRoof i_askedBelow i_askedLoose i_slidesMany i_owedNow i_slidInto i_undoMany i_bestLength i_setOff i_letLie i_trackMany i_came a_text ((upd ((upd a_comes ((4 * v1) : Int32).toNatClampNeg o9.1)) ((((4 * v1)) + 1) : Int32).toNatClampNeg o14.1)) a_hold a_below a_hay) := hD
            obtain ⟨g19, hf⟩ := gd_some hf
            refine va_iast hx hb C.2.2.2.2.2.1 hP hD hS 2 0 rfl rfl (vin_in g19) dX12_town_127 (fun H locs hP hD hS => ?_)
            have hP : va_P E.1 classes (WX12_town E q0 q0_now q0_hold q0_below q0_hay q0_weather q0_text q0_row q0_comes q0_rule q0_owedBy q0_undos q0_aside q0_acts q0_ring q0_bestRing q0_nets q0_worked q0_then q0_plan q0_bestPlan q0_tried q0_tracks q0_kept q0_isKept q0_keptCame i_houses i_weatherMany i_typed i_rowMany i_thrown 1 i_length i_top o17.2.1 o17.2.2 i_ruleSize i_isAsked i_askedInches i_askedPath i_askedDay i_askedRoof i_askedBelow i_askedLoose i_slidesMany i_owedNow i_slidInto i_undoMany i_bestLength i_setOff i_letLie i_trackMany i_came a_text ((upd ((upd ((upd a_comes ((4 * v1) : Int32).toNatClampNeg o9.1)) ((((4 * v1)) + 1) : Int32).toNatClampNeg o14.1)) ((((4 * v1)) + 2) : Int32).toNatClampNeg o17.1)) a_hold a_below a_hay) H := hP
            have hD : va_D A (WX12_town E q0 q0_now q0_hold q0_below q0_hay q0_weather q0_text q0_row q0_comes q0_rule q0_owedBy q0_undos q0_aside q0_acts q0_ring q0_bestRing q0_nets q0_worked q0_then q0_plan q0_bestPlan q0_tried q0_tracks q0_kept q0_isKept q0_keptCame i_houses i_weatherMany i_typed i_rowMany i_thrown 1 i_length i_top o17.2.1 o17.2.2 i_ruleSize i_isAsked i_askedInches i_askedPath i_askedDay i_askedRoof i_askedBelow i_askedLoose i_slidesMany i_owedNow i_slidInto i_undoMany i_bestLength i_setOff i_letLie i_trackMany i_came a_text ((upd ((upd ((upd a_comes ((4 * v1) : Int32).toNatClampNeg o9.1)) ((((4 * v1)) + 1) : Int32).toNatClampNeg o14.1)) ((((4 * v1)) + 2) : Int32).toNatClampNeg o17.1)) a_hold a_below a_hay) := hD
            refine lv_aload_n hx hb dX12_town_128 rfl (lv_at hl 0 rfl) ?_
            refine gf_RX12_32 C hP 0 rfl rfl dX12_town_129 ?_
            refine lv_iconst (v := 4) hx hb dX12_town_132 (by decide) ?_
            refine lv_iload_n hx hb dX12_town_133 rfl (lv_at hl 1 rfl) ?_
            refine lv_imul hx hb dX12_town_134 ?_
            refine lv_iconst (v := 3) hx hb dX12_town_135 (by decide) ?_
            refine lv_iadd hx hb dX12_town_136 ?_
            refine lv_aload_n hx hb dX12_town_137 rfl (lv_at hl 0 rfl) ?_
            refine lv_bipush (v := 42) hx hb dX12_town_138 (by decide) ?_
            obtain ⟨o20, hg21, hf⟩ := bd_some hf
            refine k_VI (As := [.int 42]) C K_RX12_131 (Nat.le_of_ble_eq_true rfl) (Nat.le_of_ble_eq_true rfl) (kX12_passes l E q0 q0_now q0_hold q0_below q0_hay q0_weather q0_text q0_row q0_text q0_comes q0_rule q0_owedBy q0_undos q0_aside q0_acts q0_ring q0_bestRing q0_nets q0_worked q0_then q0_plan q0_bestPlan q0_tried q0_tracks q0_kept q0_isKept q0_keptCame 80 i_houses i_weatherMany i_typed i_rowMany i_thrown i_length i_top o17.2.1 o17.2.2 i_ruleSize i_isAsked i_askedInches i_askedPath i_askedDay i_askedRoof i_askedBelow i_askedLoose i_slidesMany i_owedNow i_slidInto i_undoMany i_bestLength i_setOff i_letLie i_trackMany i_came a_text 42 o20.1 o20.2 hg21) [0, 1] rfl rfl rfl (ci := 12) rfl rfl (q0 := 0) rfl hP hD hS hA hl.1 (Nat.le_of_ble_eq_true rfl) rfl dX12_town_140 (fun H locs hP hD hS => ?_)
            have hP : va_P E.1 classes (WX12_town E q0 q0_now q0_hold q0_below q0_hay q0_weather q0_text q0_row q0_comes q0_rule q0_owedBy q0_undos q0_aside q0_acts q0_ring q0_bestRing q0_nets q0_worked q0_then q0_plan q0_bestPlan q0_tried q0_tracks q0_kept q0_isKept q0_keptCame i_houses i_weatherMany i_typed i_rowMany i_thrown 1 i_length i_top o20.2 o17.2.2 i_ruleSize i_isAsked i_askedInches i_askedPath i_askedDay i_askedRoof i_askedBelow i_askedLoose i_slidesMany i_owedNow i_slidInto i_undoMany i_bestLength i_setOff i_letLie i_trackMany i_came a_text ((upd ((upd ((upd a_comes ((4 * v1) : Int32).toNatClampNeg o9.1)) ((((4 * v1)) + 1) : Int32).toNatClampNeg o14.1)) ((((4 * v1)) + 2) : Int32).toNatClampNeg o17.1)) a_hold a_below a_hay) H := hP
            have hD : va_D A (WX12_town E q0 q0_now q0_hold q0_below q0_hay q0_weather q0_text q0_row q0_comes q0_rule q0_owedBy q0_undos q0_aside q0_acts q0_ring q0_bestRing q0_nets q0_worked q0_then q0_plan q0_bestPlan q0_tried q0_tracks q0_kept q0_isKept q0_keptCame i_houses i_weatherMany i_typed i_rowMany i_thrown 1 i_length i_top o20.2 o17.2.2 i_ruleSize i_isAsked i_askedInches i_askedPath i_askedDay i_askedRoof i_askedBelow i_askedLoose i_slidesMany i_owedNow i_slidInto i_undoMany i_bestLength i_setOff i_letLie i_trackMany i_came a_text ((upd ((upd ((upd a_comes ((4 * v1) : Int32).toNatClampNeg o9.1)) ((((4 * v1)) + 1) : Int32).toNatClampNeg o14.1)) ((((4 * v1)) + 2) : Int32).toNatClampNeg o17.1)) a_hold a_below a_hay) := hD
            refine lv_if_eq (tgt := 157) hx hb dX12_town_143 (by decide) (fun c22 => ?_) (fun c22 => ?_)
            · rw [if_pos c22] at hf
              refine lv_iconst (v := 0) hx hb dX12_town_157 (by decide) ?_
              exact J158 v1 0 ((((4 * v1)) + 3)) o20.2 o17.2.2 ((upd ((upd ((upd a_comes ((4 * v1) : Int32).toNatClampNeg o9.1)) ((((4 * v1)) + 1) : Int32).toNatClampNeg o14.1)) ((((4 * v1)) + 2) : Int32).toNatClampNeg o17.1)) hf _ _ _ (lv_sub hl [0, 1] rfl) hP hD hS
            · rw [if_neg c22] at hf
              refine lv_aload_n hx hb dX12_town_146 rfl (lv_at hl 0 rfl) ?_
              refine lv_iconst (v := 2) hx hb dX12_town_147 (by decide) ?_
              refine lv_iconst (v := 0) hx hb dX12_town_148 (by decide) ?_
              refine lv_bipush (v := 30) hx hb dX12_town_149 (by decide) ?_
              obtain ⟨o26, hg27, hf⟩ := bd_some hf
              refine k_VI (As := [.int 2, .int 0, .int 30]) C K_RX12_143 (Nat.le_of_ble_eq_true rfl) (Nat.le_of_ble_eq_true rfl) (kX12_number l E q0 q0_now q0_hold q0_below q0_hay q0_weather q0_text q0_row q0_text q0_comes q0_rule q0_owedBy q0_undos q0_aside q0_acts q0_ring q0_bestRing q0_nets q0_worked q0_then q0_plan q0_bestPlan q0_tried q0_tracks q0_kept q0_isKept q0_keptCame 80 i_houses i_weatherMany i_typed i_rowMany i_thrown i_length i_top o20.2 o17.2.2 i_ruleSize i_isAsked i_askedInches i_askedPath i_askedDay i_askedRoof i_askedBelow i_askedLoose i_slidesMany i_owedNow i_slidInto i_undoMany i_bestLength i_setOff i_letLie i_trackMany i_came a_text 2 0 30 o26.1 o26.2.1 o26.2.2 hg27) [0, 1] rfl rfl rfl (ci := 12) rfl rfl (q0 := 0) rfl hP hD hS hA hl.1 (Nat.le_of_ble_eq_true rfl) rfl dX12_town_151 (fun H locs hP hD hS => ?_)
              have hP : va_P E.1 classes (WX12_town E q0 q0_now q0_hold q0_below q0_hay q0_weather q0_text q0_row q0_comes q0_rule q0_owedBy q0_undos q0_aside q0_acts q0_ring q0_bestRing q0_nets q0_worked q0_then q0_plan q0_bestPlan q0_tried q0_tracks q0_kept q0_isKept q0_keptCame i_houses i_weatherMany i_typed i_rowMany i_thrown 1 i_length i_top o26.2.1 o26.2.2 i_ruleSize i_isAsked i_askedInches i_askedPath i_askedDay i_askedRoof i_askedBelow i_askedLoose i_slidesMany i_owedNow i_slidInto i_undoMany i_bestLength i_setOff i_letLie i_trackMany i_came a_text ((upd ((upd ((upd a_comes ((4 * v1) : Int32).toNatClampNeg o9.1)) ((((4 * v1)) + 1) : Int32).toNatClampNeg o14.1)) ((((4 * v1)) + 2) : Int32).toNatClampNeg o17.1)) a_hold a_below a_hay) H := hP
              have hD : va_D A (WX12_town E q0 q0_now q0_hold q0_below q0_hay q0_weather q0_text q0_row q0_comes q0_rule q0_owedBy q0_undos q0_aside q0_acts q0_ring q0_bestRing q0_nets q0_worked q0_then q0_plan q0_bestPlan q0_tried q0_tracks q0_kept q0_isKept q0_keptCame i_houses i_weatherMany i_typed i_rowMany i_thrown 1 i_length i_top o26.2.1 o26.2.2 i_ruleSize i_isAsked i_askedInches i_askedPath i_askedDay i_askedRoof i_askedBelow i_askedLoose i_slidesMany i_owedNow i_slidInto i_undoMany i_bestLength i_setOff i_letLie i_trackMany i_came a_text ((upd ((upd ((upd a_comes ((4 * v1) : Int32).toNatClampNeg o9.1)) ((((4 * v1)) + 1) : Int32).toNatClampNeg o14.1)) ((((4 * v1)) + 2) : Int32).toNatClampNeg o17.1)) a_hold a_below a_hay) := hD
              refine lv_goto (tgt := 158) hx hb dX12_town_154 (by decide) ?_
              exact J158 v1 o26.1 ((((4 * v1)) + 3)) o26.2.1 o26.2.2 ((upd ((upd ((upd a_comes ((4 * v1) : Int32).toNatClampNeg o9.1)) ((((4 * v1)) + 1) : Int32).toNatClampNeg o14.1)) ((((4 * v1)) + 2) : Int32).toNatClampNeg o17.1)) hf _ _ _ (lv_sub hl [0, 1] rfl) hP hD hS
          · rw [if_pos c8] at hf
            refine lv_aload_n hx hb dX12_town_59 rfl (lv_at hl 0 rfl) ?_
            refine lv_aload_n hx hb dX12_town_60 rfl (lv_at hl 0 rfl) ?_
            refine gf_RX12_117 C hP 0 rfl rfl dX12_town_61 ?_
            obtain ⟨o28, hg29, hf⟩ := bd_some hf
            refine k_VV (As := [.int i_at]) C K_RX12_135 (Nat.le_of_ble_eq_true rfl) (Nat.le_of_ble_eq_true rfl) (kX12_fault l E q0 q0_now q0_hold q0_below q0_hay q0_weather q0_text q0_row q0_comes q0_rule q0_owedBy q0_undos q0_aside q0_acts q0_ring q0_bestRing q0_nets q0_worked q0_then q0_plan q0_bestPlan q0_tried q0_tracks q0_kept q0_isKept q0_keptCame i_houses i_weatherMany i_typed i_rowMany i_thrown ((rdv 1 q0_text q0_rule)) i_length i_top i_at i_wrong i_ruleSize i_isAsked i_askedInches i_askedPath i_askedDay i_askedRoof i_askedBelow i_askedLoose i_slidesMany i_owedNow i_slidInto i_undoMany i_bestLength i_setOff i_letLie i_trackMany i_came i_at o28 hg29) [0] rfl rfl rfl (ci := 12) rfl rfl (q0 := 0) rfl hP hD hS hA hl.1 (Nat.le_of_ble_eq_true rfl) rfl dX12_town_64 (fun H locs hP hD hS => ?_)
            have hP : va_P E.1 classes (WX12_town E q0 q0_now q0_hold q0_below q0_hay q0_weather q0_text q0_row q0_comes q0_rule q0_owedBy q0_undos q0_aside q0_acts q0_ring q0_bestRing q0_nets q0_worked q0_then q0_plan q0_bestPlan q0_tried q0_tracks q0_kept q0_isKept q0_keptCame i_houses i_weatherMany i_typed i_rowMany i_thrown 1 i_length i_top i_at o28 i_ruleSize i_isAsked i_askedInches i_askedPath i_askedDay i_askedRoof i_askedBelow i_askedLoose i_slidesMany i_owedNow i_slidInto i_undoMany i_bestLength i_setOff i_letLie i_trackMany i_came a_text a_comes a_hold a_below a_hay) H := hP
            have hD : va_D A (WX12_town E q0 q0_now q0_hold q0_below q0_hay q0_weather q0_text q0_row q0_comes q0_rule q0_owedBy q0_undos q0_aside q0_acts q0_ring q0_bestRing q0_nets q0_worked q0_then q0_plan q0_bestPlan q0_tried q0_tracks q0_kept q0_isKept q0_keptCame i_houses i_weatherMany i_typed i_rowMany i_thrown 1 i_length i_top i_at o28 i_ruleSize i_isAsked i_askedInches i_askedPath i_askedDay i_askedRoof i_askedBelow i_askedLoose i_slidesMany i_owedNow i_slidInto i_undoMany i_bestLength i_setOff i_letLie i_trackMany i_came a_text a_comes a_hold a_below a_hay) := hD
            refine lv_goto (tgt := 159) hx hb dX12_town_67 (by decide) ?_
            refine lv_iinc (v := (v1 + 1)) (lv' := [(1, .int ((v1 + 1))), (0, .ref q0), (2, .int v2)]) hx hb dX12_town_159 hl (k := 1) rfl rfl (by decide) rfl (fun ls hl => ?_)
            refine lv_aload_n hx hb dX12_town_162 rfl (lv_at hl 1 rfl) ?_
            refine lv_bipush (v := 59) hx hb dX12_town_163 (by decide) ?_
            obtain ⟨o30, hg31, hf⟩ := bd_some hf
            refine k_VI (As := [.int 59]) C K_RX12_131 (Nat.le_of_ble_eq_true rfl) (Nat.le_of_ble_eq_true rfl) (kX12_passes l E q0 q0_now q0_hold q0_below q0_hay q0_weather q0_text q0_row q0_text q0_comes q0_rule q0_owedBy q0_undos q0_aside q0_acts q0_ring q0_bestRing q0_nets q0_worked q0_then q0_plan q0_bestPlan q0_tried q0_tracks q0_kept q0_isKept q0_keptCame 80 i_houses i_weatherMany i_typed i_rowMany i_thrown i_length i_top i_at o28 i_ruleSize i_isAsked i_askedInches i_askedPath i_askedDay i_askedRoof i_askedBelow i_askedLoose i_slidesMany i_owedNow i_slidInto i_undoMany i_bestLength i_setOff i_letLie i_trackMany i_came a_text 59 o30.1 o30.2 hg31) [0, 1] rfl rfl rfl (ci := 12) rfl rfl (q0 := 0) rfl hP hD hS hA hl.1 (Nat.le_of_ble_eq_true rfl) rfl dX12_town_165 (fun H locs hP hD hS => ?_)
            have hP : va_P E.1 classes (WX12_town E q0 q0_now q0_hold q0_below q0_hay q0_weather q0_text q0_row q0_comes q0_rule q0_owedBy q0_undos q0_aside q0_acts q0_ring q0_bestRing q0_nets q0_worked q0_then q0_plan q0_bestPlan q0_tried q0_tracks q0_kept q0_isKept q0_keptCame i_houses i_weatherMany i_typed i_rowMany i_thrown 1 i_length i_top o30.2 o28 i_ruleSize i_isAsked i_askedInches i_askedPath i_askedDay i_askedRoof i_askedBelow i_askedLoose i_slidesMany i_owedNow i_slidInto i_undoMany i_bestLength i_setOff i_letLie i_trackMany i_came a_text a_comes a_hold a_below a_hay) H := hP
            have hD : va_D A (WX12_town E q0 q0_now q0_hold q0_below q0_hay q0_weather q0_text q0_row q0_comes q0_rule q0_owedBy q0_undos q0_aside q0_acts q0_ring q0_bestRing q0_nets q0_worked q0_then q0_plan q0_bestPlan q0_tried q0_tracks q0_kept q0_isKept q0_keptCame i_houses i_weatherMany i_typed i_rowMany i_thrown 1 i_length i_top o30.2 o28 i_ruleSize i_isAsked i_askedInches i_askedPath i_askedDay i_askedRoof i_askedBelow i_askedLoose i_slidesMany i_owedNow i_slidInto i_undoMany i_bestLength i_setOff i_letLie i_trackMany i_came a_text a_comes a_hold a_below a_hay) := hD
            refine lv_istore_n (lv' := [(2, .int o30.1), (1, .int ((v1 + 1))), (0, .ref q0)]) hx hb dX12_town_168 rfl hl (by decide) rfl (fun ls hl => ?_)
            refine lv_goto (tgt := 37) hx hb dX12_town_169 (by decide) ?_
            exact ih ((v1 + 1)) o30.1 o30.2 o28 a_comes _ hf hE _ _ _ (lv_sub hl [2, 1, 0] rfl) hP hD hS
  have L207 : ∀ (v1 : Int32) (i_typed : Int32) (i_thrown : Int32) (i_length : Int32) (i_top : Int32) (i_at : Int32) (i_wrong : Int32) (i_undoMany : Int32) (i_came : Int32) (a_comes : Nat → Int32), ∀ (n : Nat) (v3 : Int32) (i_houses : Int32) (a_hold : Nat → Int32) (a_below : Nat → Int32) (a_hay : Nat → Int32) (o : Int32 × (Nat → Int32) × (Nat → Int32) × (Nat → Int32)), fX12_town_L207 v1 a_comes n v3 i_houses a_hold a_below a_hay = some o → (GO p l e 3 s m args below meth c Q E A 4 308 [] [(0, .ref q0), (1, .int v1)] (WX12_town E q0 q0_now q0_hold q0_below q0_hay q0_weather q0_text q0_row q0_comes q0_rule q0_owedBy q0_undos q0_aside q0_acts q0_ring q0_bestRing q0_nets q0_worked q0_then q0_plan q0_bestPlan q0_tried q0_tracks q0_kept q0_isKept q0_keptCame o.1 i_weatherMany i_typed i_rowMany i_thrown 1 i_length i_top i_at i_wrong i_ruleSize i_isAsked i_askedInches i_askedPath i_askedDay i_askedRoof i_askedBelow i_askedLoose i_slidesMany i_owedNow i_slidInto i_undoMany i_bestLength i_setOff i_letLie i_trackMany i_came a_text a_comes o.2.1 o.2.2.1 o.2.2.2)) → GO p l e 3 s m args below meth c Q E A 4 207 [] [(0, .ref q0), (1, .int v1), (3, .int v3)] (WX12_town E q0 q0_now q0_hold q0_below q0_hay q0_weather q0_text q0_row q0_comes q0_rule q0_owedBy q0_undos q0_aside q0_acts q0_ring q0_bestRing q0_nets q0_worked q0_then q0_plan q0_bestPlan q0_tried q0_tracks q0_kept q0_isKept q0_keptCame i_houses i_weatherMany i_typed i_rowMany i_thrown 1 i_length i_top i_at i_wrong i_ruleSize i_isAsked i_askedInches i_askedPath i_askedDay i_askedRoof i_askedBelow i_askedLoose i_slidesMany i_owedNow i_slidInto i_undoMany i_bestLength i_setOff i_letLie i_trackMany i_came a_text a_comes a_hold a_below a_hay) := by
    intro v1 i_typed i_thrown i_length i_top i_at i_wrong i_undoMany i_came a_comes
    intro n
    induction n with
    | zero =>
      intro v3 i_houses a_hold a_below a_hay o hf
      have hf : none = some o := hf
      cases hf
    | succ n ih =>
      intro v3 i_houses a_hold a_below a_hay o hf hE
      intro H locs ls hl hP hD hS
      rw [fX12_town_L207] at hf
      refine lv_iload_n hx hb dX12_town_207 rfl (lv_at hl 2 rfl) ?_
      refine lv_iload_n hx hb dX12_town_208 rfl (lv_at hl 1 rfl) ?_
      refine lv_icmp_ge (tgt := 308) hx hb dX12_town_209 (by decide) (fun c38 => ?_) (fun c38 => ?_)
      · rw [if_pos c38] at hf
        have hf := Option.some.inj hf
        subst hf
        exact hE _ _ _ (lv_sub hl [0, 1] rfl) hP hD hS
      · rw [if_neg c38] at hf
        refine lv_aload_n hx hb dX12_town_212 rfl (lv_at hl 0 rfl) ?_
        refine gf_RX12_13 C hP 0 rfl rfl dX12_town_213 ?_
        refine lv_aload_n hx hb dX12_town_216 rfl (lv_at hl 0 rfl) ?_
        refine gf_RX12_94 C hP 0 rfl rfl dX12_town_217 ?_
        refine lv_aload_n hx hb dX12_town_220 rfl (lv_at hl 0 rfl) ?_
        refine gf_RX12_32 C hP 0 rfl rfl dX12_town_221 ?_
        refine lv_iconst (v := 4) hx hb dX12_town_224 (by decide) ?_
        refine lv_iload_n hx hb dX12_town_225 rfl (lv_at hl 2 rfl) ?_
        refine lv_imul hx hb dX12_town_226 ?_
        obtain ⟨g39, hf⟩ := gd_some hf
        refine va_iald hx hb C.2.2.2.2.2.1 hP 2 0 rfl rfl (vin_in g39) dX12_town_227 ?_
        obtain ⟨g40, hf⟩ := gd_some hf
        refine va_iast hx hb C.2.2.2.2.2.1 hP hD hS 3 0 rfl rfl (vin_in g40) dX12_town_228 (fun H locs hP hD hS => ?_)
        have hP : va_P E.1 classes (WX12_town E q0 q0_now q0_hold q0_below q0_hay q0_weather q0_text q0_row q0_comes q0_rule q0_owedBy q0_undos q0_aside q0_acts q0_ring q0_bestRing q0_nets q0_worked q0_then q0_plan q0_bestPlan q0_tried q0_tracks q0_kept q0_isKept q0_keptCame i_houses i_weatherMany i_typed i_rowMany i_thrown 1 i_length i_top i_at i_wrong i_ruleSize i_isAsked i_askedInches i_askedPath i_askedDay i_askedRoof i_askedBelow i_askedLoose i_slidesMany i_owedNow i_slidInto i_undoMany i_bestLength i_setOff i_letLie i_trackMany i_came a_text a_comes ((upd a_hold (i_houses : Int32).toNatClampNeg ((a_comes ((4 * v3) : Int32).toNatClampNeg)))) a_below a_hay) H := hP
        have hD : va_D A (WX12_town E q0 q0_now q0_hold q0_below q0_hay q0_weather q0_text q0_row q0_comes q0_rule q0_owedBy q0_undos q0_aside q0_acts q0_ring q0_bestRing q0_nets q0_worked q0_then q0_plan q0_bestPlan q0_tried q0_tracks q0_kept q0_isKept q0_keptCame i_houses i_weatherMany i_typed i_rowMany i_thrown 1 i_length i_top i_at i_wrong i_ruleSize i_isAsked i_askedInches i_askedPath i_askedDay i_askedRoof i_askedBelow i_askedLoose i_slidesMany i_owedNow i_slidInto i_undoMany i_bestLength i_setOff i_letLie i_trackMany i_came a_text a_comes ((upd a_hold (i_houses : Int32).toNatClampNeg ((a_comes ((4 * v3) : Int32).toNatClampNeg)))) a_below a_hay) := hD
        refine lv_aload_n hx hb dX12_town_229 rfl (lv_at hl 0 rfl) ?_
        refine gf_RX12_16 C hP 0 rfl rfl dX12_town_230 ?_
        refine lv_iconst (v := 2) hx hb dX12_town_233 (by decide) ?_
        refine lv_aload_n hx hb dX12_town_234 rfl (lv_at hl 0 rfl) ?_
        refine gf_RX12_94 C hP 0 rfl rfl dX12_town_235 ?_
        refine lv_imul hx hb dX12_town_238 ?_
        refine lv_aload_n hx hb dX12_town_239 rfl (lv_at hl 0 rfl) ?_
        refine gf_RX12_32 C hP 0 rfl rfl dX12_town_240 ?_
        refine lv_iconst (v := 4) hx hb dX12_town_243 (by decide) ?_
        refine lv_iload_n hx hb dX12_town_244 rfl (lv_at hl 2 rfl) ?_
        refine lv_imul hx hb dX12_town_245 ?_
        refine lv_iconst (v := 1) hx hb dX12_town_246 (by decide) ?_
        refine lv_iadd hx hb dX12_town_247 ?_
        obtain ⟨g41, hf⟩ := gd_some hf
        refine va_iald hx hb C.2.2.2.2.2.1 hP 2 0 rfl rfl (vin_in g41) dX12_town_248 ?_
        obtain ⟨g42, hf⟩ := gd_some hf
        refine va_iast hx hb C.2.2.2.2.2.1 hP hD hS 4 0 rfl rfl (vin_in g42) dX12_town_249 (fun H locs hP hD hS => ?_)
        have hP : va_P E.1 classes (WX12_town E q0 q0_now q0_hold q0_below q0_hay q0_weather q0_text q0_row q0_comes q0_rule q0_owedBy q0_undos q0_aside q0_acts q0_ring q0_bestRing q0_nets q0_worked q0_then q0_plan q0_bestPlan q0_tried q0_tracks q0_kept q0_isKept q0_keptCame i_houses i_weatherMany i_typed i_rowMany i_thrown 1 i_length i_top i_at i_wrong i_ruleSize i_isAsked i_askedInches i_askedPath i_askedDay i_askedRoof i_askedBelow i_askedLoose i_slidesMany i_owedNow i_slidInto i_undoMany i_bestLength i_setOff i_letLie i_trackMany i_came a_text a_comes ((upd a_hold (i_houses : Int32).toNatClampNeg ((a_comes ((4 * v3) : Int32).toNatClampNeg)))) ((upd a_below ((2 * i_houses) : Int32).toNatClampNeg ((a_comes ((((4 * v3)) + 1) : Int32).toNatClampNeg)))) a_hay) H := hP
        have hD : va_D A (WX12_town E q0 q0_now q0_hold q0_below q0_hay q0_weather q0_text q0_row q0_comes q0_rule q0_owedBy q0_undos q0_aside q0_acts q0_ring q0_bestRing q0_nets q0_worked q0_then q0_plan q0_bestPlan q0_tried q0_tracks q0_kept q0_isKept q0_keptCame i_houses i_weatherMany i_typed i_rowMany i_thrown 1 i_length i_top i_at i_wrong i_ruleSize i_isAsked i_askedInches i_askedPath i_askedDay i_askedRoof i_askedBelow i_askedLoose i_slidesMany i_owedNow i_slidInto i_undoMany i_bestLength i_setOff i_letLie i_trackMany i_came a_text a_comes ((upd a_hold (i_houses : Int32).toNatClampNeg ((a_comes ((4 * v3) : Int32).toNatClampNeg)))) ((upd a_below ((2 * i_houses) : Int32).toNatClampNeg ((a_comes ((((4 * v3)) + 1) : Int32).toNatClampNeg)))) a_hay) := hD
        refine lv_aload_n hx hb dX12_town_250 rfl (lv_at hl 0 rfl) ?_
        refine gf_RX12_16 C hP 0 rfl rfl dX12_town_251 ?_
        refine lv_iconst (v := 2) hx hb dX12_town_254 (by decide) ?_
        refine lv_aload_n hx hb dX12_town_255 rfl (lv_at hl 0 rfl) ?_
        refine gf_RX12_94 C hP 0 rfl rfl dX12_town_256 ?_
        refine lv_imul hx hb dX12_town_259 ?_
        refine lv_iconst (v := 1) hx hb dX12_town_260 (by decide) ?_
        refine lv_iadd hx hb dX12_town_261 ?_
        refine lv_aload_n hx hb dX12_town_262 rfl (lv_at hl 0 rfl) ?_
        refine gf_RX12_32 C hP 0 rfl rfl dX12_town_263 ?_
        refine lv_iconst (v := 4) hx hb dX12_town_266 (by decide) ?_
        refine lv_iload_n hx hb dX12_town_267 rfl (lv_at hl 2 rfl) ?_
        refine lv_imul hx hb dX12_town_268 ?_
        refine lv_iconst (v := 2) hx hb dX12_town_269 (by decide) ?_
        refine lv_iadd hx hb dX12_town_270 ?_
        obtain ⟨g43, hf⟩ := gd_some hf
        refine va_iald hx hb C.2.2.2.2.2.1 hP 2 0 rfl rfl (vin_in g43) dX12_town_271 ?_
        obtain ⟨g44, hf⟩ := gd_some hf
        refine va_iast hx hb C.2.2.2.2.2.1 hP hD hS 4 0 rfl rfl (vin_in g44) dX12_town_272 (fun H locs hP hD hS => ?_)
        have hP : va_P E.1 classes (WX12_town E q0 q0_now q0_hold q0_below q0_hay q0_weather q0_text q0_row q0_comes q0_rule q0_owedBy q0_undos q0_aside q0_acts q0_ring q0_bestRing q0_nets q0_worked q0_then q0_plan q0_bestPlan q0_tried q0_tracks q0_kept q0_isKept q0_keptCame i_houses i_weatherMany i_typed i_rowMany i_thrown 1 i_length i_top i_at i_wrong i_ruleSize i_isAsked i_askedInches i_askedPath i_askedDay i_askedRoof i_askedBelow i_askedLoose i_slidesMany i_owedNow i_slidInto i_undoMany i_bestLength i_setOff i_letLie i_trackMany i_came a_text a_comes ((upd a_hold (i_houses : Int32).toNatClampNeg ((a_comes ((4 * v3) : Int32).toNatClampNeg)))) ((upd ((upd a_below ((2 * i_houses) : Int32).toNatClampNeg ((a_comes ((((4 * v3)) + 1) : Int32).toNatClampNeg)))) ((((2 * i_houses)) + 1) : Int32).toNatClampNeg ((a_comes ((((4 * v3)) + 2) : Int32).toNatClampNeg)))) a_hay) H := hP
        have hD : va_D A (WX12_town E q0 q0_now q0_hold q0_below q0_hay q0_weather q0_text q0_row q0_comes q0_rule q0_owedBy q0_undos q0_aside q0_acts q0_ring q0_bestRing q0_nets q0_worked q0_then q0_plan q0_bestPlan q0_tried q0_tracks q0_kept q0_isKept q0_keptCame i_houses i_weatherMany i_typed i_rowMany i_thrown 1 i_length i_top i_at i_wrong i_ruleSize i_isAsked i_askedInches i_askedPath i_askedDay i_askedRoof i_askedBelow i_askedLoose i_slidesMany i_owedNow i_slidInto i_undoMany i_bestLength i_setOff i_letLie i_trackMany i_came a_text a_comes ((upd a_hold (i_houses : Int32).toNatClampNeg ((a_comes ((4 * v3) : Int32).toNatClampNeg)))) ((upd ((upd a_below ((2 * i_houses) : Int32).toNatClampNeg ((a_comes ((((4 * v3)) + 1) : Int32).toNatClampNeg)))) ((((2 * i_houses)) + 1) : Int32).toNatClampNeg ((a_comes ((((4 * v3)) + 2) : Int32).toNatClampNeg)))) a_hay) := hD
        refine lv_aload_n hx hb dX12_town_273 rfl (lv_at hl 0 rfl) ?_
        refine gf_RX12_19 C hP 0 rfl rfl dX12_town_274 ?_
        refine lv_aload_n hx hb dX12_town_277 rfl (lv_at hl 0 rfl) ?_
        refine gf_RX12_94 C hP 0 rfl rfl dX12_town_278 ?_
        refine lv_aload_n hx hb dX12_town_281 rfl (lv_at hl 0 rfl) ?_
        refine gf_RX12_32 C hP 0 rfl rfl dX12_town_282 ?_
        refine lv_iconst (v := 4) hx hb dX12_town_285 (by decide) ?_
        refine lv_iload_n hx hb dX12_town_286 rfl (lv_at hl 2 rfl) ?_
        refine lv_imul hx hb dX12_town_287 ?_
        refine lv_iconst (v := 3) hx hb dX12_town_288 (by decide) ?_
        refine lv_iadd hx hb dX12_town_289 ?_
        obtain ⟨g45, hf⟩ := gd_some hf
        refine va_iald hx hb C.2.2.2.2.2.1 hP 2 0 rfl rfl (vin_in g45) dX12_town_290 ?_
        obtain ⟨g46, hf⟩ := gd_some hf
        refine va_iast hx hb C.2.2.2.2.2.1 hP hD hS 5 0 rfl rfl (vin_in g46) dX12_town_291 (fun H locs hP hD hS => ?_)
        have hP : va_P E.1 classes (WX12_town E q0 q0_now q0_hold q0_below q0_hay q0_weather q0_text q0_row q0_comes q0_rule q0_owedBy q0_undos q0_aside q0_acts q0_ring q0_bestRing q0_nets q0_worked q0_then q0_plan q0_bestPlan q0_tried q0_tracks q0_kept q0_isKept q0_keptCame i_houses i_weatherMany i_typed i_rowMany i_thrown 1 i_length i_top i_at i_wrong i_ruleSize i_isAsked i_askedInches i_askedPath i_askedDay i_askedRoof i_askedBelow i_askedLoose i_slidesMany i_owedNow i_slidInto i_undoMany i_bestLength i_setOff i_letLie i_trackMany i_came a_text a_comes ((upd a_hold (i_houses : Int32).toNatClampNeg ((a_comes ((4 * v3) : Int32).toNatClampNeg)))) ((upd ((upd a_below ((2 * i_houses) : Int32).toNatClampNeg ((a_comes ((((4 * v3)) + 1) : Int32).toNatClampNeg)))) ((((2 * i_houses)) + 1) : Int32).toNatClampNeg ((a_comes ((((4 * v3)) + 2) : Int32).toNatClampNeg)))) ((upd a_hay (i_houses : Int32).toNatClampNeg ((a_comes ((((4 * v3)) + 3) : Int32).toNatClampNeg))))) H := hP
        have hD : va_D A (WX12_town E q0 q0_now q0_hold q0_below q0_hay q0_weather q0_text q0_row q0_comes q0_rule q0_owedBy q0_undos q0_aside q0_acts q0_ring q0_bestRing q0_nets q0_worked q0_then q0_plan q0_bestPlan q0_tried q0_tracks q0_kept q0_isKept q0_keptCame i_houses i_weatherMany i_typed i_rowMany i_thrown 1 i_length i_top i_at i_wrong i_ruleSize i_isAsked i_askedInches i_askedPath i_askedDay i_askedRoof i_askedBelow i_askedLoose i_slidesMany i_owedNow i_slidInto i_undoMany i_bestLength i_setOff i_letLie i_trackMany i_came a_text a_comes ((upd a_hold (i_houses : Int32).toNatClampNeg ((a_comes ((4 * v3) : Int32).toNatClampNeg)))) ((upd ((upd a_below ((2 * i_houses) : Int32).toNatClampNeg ((a_comes ((((4 * v3)) + 1) : Int32).toNatClampNeg)))) ((((2 * i_houses)) + 1) : Int32).toNatClampNeg ((a_comes ((((4 * v3)) + 2) : Int32).toNatClampNeg)))) ((upd a_hay (i_houses : Int32).toNatClampNeg ((a_comes ((((4 * v3)) + 3) : Int32).toNatClampNeg))))) := hD
        refine lv_aload_n hx hb dX12_town_292 rfl (lv_at hl 0 rfl) ?_
        refine lv_dup hx hb dX12_town_293 rfl ?_
        refine gf_RX12_94 C hP 0 rfl rfl dX12_town_294 ?_
        refine lv_iconst (v := 1) hx hb dX12_town_297 (by decide) ?_
        refine lv_iadd hx hb dX12_town_298 ?_
        refine pf_RX12_94 C hP hD hS 0 rfl (Nat.le_of_ble_eq_true rfl) dX12_town_299 (fun H locs hP hD hS => ?_)
        have hP : va_P E.1 classes (WX12_town E q0 q0_now q0_hold q0_below q0_hay q0_weather q0_text q0_row q0_comes q0_rule q0_owedBy q0_undos q0_aside q0_acts q0_ring q0_bestRing q0_nets q0_worked q0_then q0_plan q0_bestPlan q0_tried q0_tracks q0_kept q0_isKept q0_keptCame ((i_houses + 1)) i_weatherMany i_typed i_rowMany i_thrown 1 i_length i_top i_at i_wrong i_ruleSize i_isAsked i_askedInches i_askedPath i_askedDay i_askedRoof i_askedBelow i_askedLoose i_slidesMany i_owedNow i_slidInto i_undoMany i_bestLength i_setOff i_letLie i_trackMany i_came a_text a_comes ((upd a_hold (i_houses : Int32).toNatClampNeg ((a_comes ((4 * v3) : Int32).toNatClampNeg)))) ((upd ((upd a_below ((2 * i_houses) : Int32).toNatClampNeg ((a_comes ((((4 * v3)) + 1) : Int32).toNatClampNeg)))) ((((2 * i_houses)) + 1) : Int32).toNatClampNeg ((a_comes ((((4 * v3)) + 2) : Int32).toNatClampNeg)))) ((upd a_hay (i_houses : Int32).toNatClampNeg ((a_comes ((((4 * v3)) + 3) : Int32).toNatClampNeg))))) H := hP
        have hD : va_D A (WX12_town E q0 q0_now q0_hold q0_below q0_hay q0_weather q0_text q0_row q0_comes q0_rule q0_owedBy q0_undos q0_aside q0_acts q0_ring q0_bestRing q0_nets q0_worked q0_then q0_plan q0_bestPlan q0_tried q0_tracks q0_kept q0_isKept q0_keptCame ((i_houses + 1)) i_weatherMany i_typed i_rowMany i_thrown 1 i_length i_top i_at i_wrong i_ruleSize i_isAsked i_askedInches i_askedPath i_askedDay i_askedRoof i_askedBelow i_askedLoose i_slidesMany i_owedNow i_slidInto i_undoMany i_bestLength i_setOff i_letLie i_trackMany i_came a_text a_comes ((upd a_hold (i_houses : Int32).toNatClampNeg ((a_comes ((4 * v3) : Int32).toNatClampNeg)))) ((upd ((upd a_below ((2 * i_houses) : Int32).toNatClampNeg ((a_comes ((((4 * v3)) + 1) : Int32).toNatClampNeg)))) ((((2 * i_houses)) + 1) : Int32).toNatClampNeg ((a_comes ((((4 * v3)) + 2) : Int32).toNatClampNeg)))) ((upd a_hay (i_houses : Int32).toNatClampNeg ((a_comes ((((4 * v3)) + 3) : Int32).toNatClampNeg))))) := hD
        refine lv_iinc (v := (v3 + 1)) (lv' := [(3, .int ((v3 + 1))), (0, .ref q0), (1, .int v1)]) hx hb dX12_town_302 hl (k := 2) rfl rfl (by decide) rfl (fun ls hl => ?_)
        refine lv_goto (tgt := 207) hx hb dX12_town_305 (by decide) ?_
        exact ih ((v3 + 1)) ((i_houses + 1)) ((upd a_hold (i_houses : Int32).toNatClampNeg ((a_comes ((4 * v3) : Int32).toNatClampNeg)))) ((upd ((upd a_below ((2 * i_houses) : Int32).toNatClampNeg ((a_comes ((((4 * v3)) + 1) : Int32).toNatClampNeg)))) ((((2 * i_houses)) + 1) : Int32).toNatClampNeg ((a_comes ((((4 * v3)) + 2) : Int32).toNatClampNeg)))) ((upd a_hay (i_houses : Int32).toNatClampNeg ((a_comes ((((4 * v3)) + 3) : Int32).toNatClampNeg)))) _ hf hE _ _ _ (lv_sub hl [1, 2, 0] rfl) hP hD hS
  have J191 : ∀ (v1 : Int32) (i_houses : Int32) (i_typed : Int32) (i_thrown : Int32) (i_length : Int32) (i_top : Int32) (i_at : Int32) (i_wrong : Int32) (i_undoMany : Int32) (i_came : Int32) (a_comes : Nat → Int32) (a_hold : Nat → Int32) (a_below : Nat → Int32) (a_hay : Nat → Int32), fX12_town_J191 v1 i_houses i_typed i_thrown i_length i_top i_at i_wrong i_undoMany i_came a_comes a_hold a_below a_hay = some (r9, i_houses9, i_typed9, i_thrown9, r_read9, i_length9, i_top9, i_at9, i_wrong9, i_undoMany9, i_came9, a_comes9, a_hold9, a_below9, a_hay9) → GO p l e 3 s m args below meth c Q E A 4 191 [] [(0, .ref q0), (1, .int v1)] (WX12_town E q0 q0_now q0_hold q0_below q0_hay q0_weather q0_text q0_row q0_comes q0_rule q0_owedBy q0_undos q0_aside q0_acts q0_ring q0_bestRing q0_nets q0_worked q0_then q0_plan q0_bestPlan q0_tried q0_tracks q0_kept q0_isKept q0_keptCame i_houses i_weatherMany i_typed i_rowMany i_thrown 1 i_length i_top i_at i_wrong i_ruleSize i_isAsked i_askedInches i_askedPath i_askedDay i_askedRoof i_askedBelow i_askedLoose i_slidesMany i_owedNow i_slidInto i_undoMany i_bestLength i_setOff i_letLie i_trackMany i_came a_text a_comes a_hold a_below a_hay) := by
    intro v1 i_houses i_typed i_thrown i_length i_top i_at i_wrong i_undoMany i_came a_comes a_hold a_below a_hay hf H locs ls hl hP hD hS
    unfold fX12_town_J191 at hf
    refine lv_aload_n hx hb dX12_town_191 rfl (lv_at hl 0 rfl) ?_
    obtain ⟨o35, hg36, hf⟩ := bd_some hf
    refine k_VI (As := []) C K_RX12_123 (Nat.le_of_ble_eq_true rfl) (Nat.le_of_ble_eq_true rfl) (kX12_fine l E q0 q0_now q0_hold q0_below q0_hay q0_weather q0_text q0_row q0_comes q0_rule q0_owedBy q0_undos q0_aside q0_acts q0_ring q0_bestRing q0_nets q0_worked q0_then q0_plan q0_bestPlan q0_tried q0_tracks q0_kept q0_isKept q0_keptCame i_houses i_weatherMany i_typed i_rowMany i_thrown ((rdv 1 q0_text q0_rule)) i_length i_top i_at i_wrong i_ruleSize i_isAsked i_askedInches i_askedPath i_askedDay i_askedRoof i_askedBelow i_askedLoose i_slidesMany i_owedNow i_slidInto i_undoMany i_bestLength i_setOff i_letLie i_trackMany i_came o35 hg36) [0] rfl rfl rfl (ci := 12) rfl rfl (q0 := 0) rfl hP hD hS hA hl.1 (Nat.le_of_ble_eq_true rfl) rfl dX12_town_192 (fun H locs hP hD hS => ?_)
    have hP : va_P E.1 classes (WX12_town E q0 q0_now q0_hold q0_below q0_hay q0_weather q0_text q0_row q0_comes q0_rule q0_owedBy q0_undos q0_aside q0_acts q0_ring q0_bestRing q0_nets q0_worked q0_then q0_plan q0_bestPlan q0_tried q0_tracks q0_kept q0_isKept q0_keptCame i_houses i_weatherMany i_typed i_rowMany i_thrown 1 i_length i_top i_at i_wrong i_ruleSize i_isAsked i_askedInches i_askedPath i_askedDay i_askedRoof i_askedBelow i_askedLoose i_slidesMany i_owedNow i_slidInto i_undoMany i_bestLength i_setOff i_letLie i_trackMany i_came a_text a_comes a_hold a_below a_hay) H := hP
    have hD : va_D A (WX12_town E q0 q0_now q0_hold q0_below q0_hay q0_weather q0_text q0_row q0_comes q0_rule q0_owedBy q0_undos q0_aside q0_acts q0_ring q0_bestRing q0_nets q0_worked q0_then q0_plan q0_bestPlan q0_tried q0_tracks q0_kept q0_isKept q0_keptCame i_houses i_weatherMany i_typed i_rowMany i_thrown 1 i_length i_top i_at i_wrong i_ruleSize i_isAsked i_askedInches i_askedPath i_askedDay i_askedRoof i_askedBelow i_askedLoose i_slidesMany i_owedNow i_slidInto i_undoMany i_bestLength i_setOff i_letLie i_trackMany i_came a_text a_comes a_hold a_below a_hay) := hD
    refine lv_if_ne (tgt := 205) hx hb dX12_town_195 (by decide) (fun c37 => ?_) (fun c37 => ?_)
    · rw [if_neg c37] at hf
      refine lv_iconst (v := 0) hx hb dX12_town_205 (by decide) ?_
      refine lv_istore_n (lv' := [(3, .int 0), (0, .ref q0), (1, .int v1)]) hx hb dX12_town_206 rfl hl (by decide) rfl (fun ls hl => ?_)
      obtain ⟨o47, hg48, hf⟩ := bd_some hf
      refine L207 v1 i_typed i_thrown i_length i_top i_at i_wrong i_undoMany i_came a_comes FU 0 i_houses a_hold a_below a_hay o47 hg48 ?_ _ _ _ (lv_sub hl [1, 2, 0] rfl) hP hD hS
      intro H locs ls hl hP hD hS
      refine lv_aload_n hx hb dX12_town_308 rfl (lv_at hl 0 rfl) ?_
      refine lv_iconst (v := 0) hx hb dX12_town_309 (by decide) ?_
      refine pf_RX12_151 C hP hD hS 0 rfl (Nat.le_of_ble_eq_true rfl) dX12_town_310 (fun H locs hP hD hS => ?_)
      have hP : va_P E.1 classes (WX12_town E q0 q0_now q0_hold q0_below q0_hay q0_weather q0_text q0_row q0_comes q0_rule q0_owedBy q0_undos q0_aside q0_acts q0_ring q0_bestRing q0_nets q0_worked q0_then q0_plan q0_bestPlan q0_tried q0_tracks q0_kept q0_isKept q0_keptCame o47.1 i_weatherMany i_typed i_rowMany i_thrown 1 i_length i_top i_at i_wrong i_ruleSize i_isAsked i_askedInches i_askedPath i_askedDay i_askedRoof i_askedBelow i_askedLoose i_slidesMany i_owedNow i_slidInto 0 i_bestLength i_setOff i_letLie i_trackMany i_came a_text a_comes o47.2.1 o47.2.2.1 o47.2.2.2) H := hP
      have hD : va_D A (WX12_town E q0 q0_now q0_hold q0_below q0_hay q0_weather q0_text q0_row q0_comes q0_rule q0_owedBy q0_undos q0_aside q0_acts q0_ring q0_bestRing q0_nets q0_worked q0_then q0_plan q0_bestPlan q0_tried q0_tracks q0_kept q0_isKept q0_keptCame o47.1 i_weatherMany i_typed i_rowMany i_thrown 1 i_length i_top i_at i_wrong i_ruleSize i_isAsked i_askedInches i_askedPath i_askedDay i_askedRoof i_askedBelow i_askedLoose i_slidesMany i_owedNow i_slidInto 0 i_bestLength i_setOff i_letLie i_trackMany i_came a_text a_comes o47.2.1 o47.2.2.1 o47.2.2.2) := hD
      refine lv_aload_n hx hb dX12_town_313 rfl (lv_at hl 0 rfl) ?_
      refine lv_dup hx hb dX12_town_314 rfl ?_
      refine gf_RX12_154 C hP 0 rfl rfl dX12_town_315 ?_
      refine lv_iconst (v := 1) hx hb dX12_town_318 (by decide) ?_
      refine lv_iadd hx hb dX12_town_319 ?_
      refine pf_RX12_154 C hP hD hS 0 rfl (Nat.le_of_ble_eq_true rfl) dX12_town_320 (fun H locs hP hD hS => ?_)
      have hP : va_P E.1 classes (WX12_town E q0 q0_now q0_hold q0_below q0_hay q0_weather q0_text q0_row q0_comes q0_rule q0_owedBy q0_undos q0_aside q0_acts q0_ring q0_bestRing q0_nets q0_worked q0_then q0_plan q0_bestPlan q0_tried q0_tracks q0_kept q0_isKept q0_keptCame o47.1 i_weatherMany i_typed i_rowMany i_thrown 1 i_length i_top i_at i_wrong i_ruleSize i_isAsked i_askedInches i_askedPath i_askedDay i_askedRoof i_askedBelow i_askedLoose i_slidesMany i_owedNow i_slidInto 0 i_bestLength i_setOff i_letLie i_trackMany ((i_came + 1)) a_text a_comes o47.2.1 o47.2.2.1 o47.2.2.2) H := hP
      have hD : va_D A (WX12_town E q0 q0_now q0_hold q0_below q0_hay q0_weather q0_text q0_row q0_comes q0_rule q0_owedBy q0_undos q0_aside q0_acts q0_ring q0_bestRing q0_nets q0_worked q0_then q0_plan q0_bestPlan q0_tried q0_tracks q0_kept q0_isKept q0_keptCame o47.1 i_weatherMany i_typed i_rowMany i_thrown 1 i_length i_top i_at i_wrong i_ruleSize i_isAsked i_askedInches i_askedPath i_askedDay i_askedRoof i_askedBelow i_askedLoose i_slidesMany i_owedNow i_slidInto 0 i_bestLength i_setOff i_letLie i_trackMany ((i_came + 1)) a_text a_comes o47.2.1 o47.2.2.1 o47.2.2.2) := hD
      refine lv_iload_n hx hb dX12_town_323 rfl (lv_at hl 1 rfl) ?_
      have hj0 := Option.some.inj hf
      obtain ⟨ha0, hj1⟩ := Prod.mk.inj hj0
      obtain ⟨ha1, hj2⟩ := Prod.mk.inj hj1
      obtain ⟨ha2, hj3⟩ := Prod.mk.inj hj2
      obtain ⟨ha3, hj4⟩ := Prod.mk.inj hj3
      obtain ⟨ha4, hj5⟩ := Prod.mk.inj hj4
      obtain ⟨ha5, hj6⟩ := Prod.mk.inj hj5
      obtain ⟨ha6, hj7⟩ := Prod.mk.inj hj6
      obtain ⟨ha7, hj8⟩ := Prod.mk.inj hj7
      obtain ⟨ha8, hj9⟩ := Prod.mk.inj hj8
      obtain ⟨ha9, hj10⟩ := Prod.mk.inj hj9
      obtain ⟨ha10, hj11⟩ := Prod.mk.inj hj10
      obtain ⟨ha11, hj12⟩ := Prod.mk.inj hj11
      obtain ⟨ha12, hj13⟩ := Prod.mk.inj hj12
      obtain ⟨ha13, hj14⟩ := Prod.mk.inj hj13
      subst ha0
      subst ha1
      subst ha2
      subst ha3
      subst ha4
      subst ha5
      subst ha6
      subst ha7
      subst ha8
      subst ha9
      subst ha10
      subst ha11
      subst ha12
      subst ha13
      subst hj14
      exact hret _ _ _ _ dX12_town_324 rfl hP hD hS
    · rw [if_pos c37] at hf
      refine lv_iconst (v := (-1)) hx hb dX12_town_198 (by decide) ?_
      refine lv_aload_n hx hb dX12_town_199 rfl (lv_at hl 0 rfl) ?_
      refine gf_RX12_120 C hP 0 rfl rfl dX12_town_200 ?_
      refine lv_isub hx hb dX12_town_203 ?_
      have hj0 := Option.some.inj hf
      obtain ⟨ha0, hj1⟩ := Prod.mk.inj hj0
      obtain ⟨ha1, hj2⟩ := Prod.mk.inj hj1
      obtain ⟨ha2, hj3⟩ := Prod.mk.inj hj2
      obtain ⟨ha3, hj4⟩ := Prod.mk.inj hj3
      obtain ⟨ha4, hj5⟩ := Prod.mk.inj hj4
      obtain ⟨ha5, hj6⟩ := Prod.mk.inj hj5
      obtain ⟨ha6, hj7⟩ := Prod.mk.inj hj6
      obtain ⟨ha7, hj8⟩ := Prod.mk.inj hj7
      obtain ⟨ha8, hj9⟩ := Prod.mk.inj hj8
      obtain ⟨ha9, hj10⟩ := Prod.mk.inj hj9
      obtain ⟨ha10, hj11⟩ := Prod.mk.inj hj10
      obtain ⟨ha11, hj12⟩ := Prod.mk.inj hj11
      obtain ⟨ha12, hj13⟩ := Prod.mk.inj hj12
      obtain ⟨ha13, hj14⟩ := Prod.mk.inj hj13
      subst ha0
      subst ha1
      subst ha2
      subst ha3
      subst ha4
      subst ha5
      subst ha6
      subst ha7
      subst ha8
      subst ha9
      subst ha10
      subst ha11
      subst ha12
      subst ha13
      subst hj14
      exact hret _ _ _ _ dX12_town_204 rfl hP hD hS
  have J172 : ∀ (v1 : Int32) (i_houses : Int32) (i_typed : Int32) (i_thrown : Int32) (i_length : Int32) (i_top : Int32) (i_at : Int32) (i_wrong : Int32) (i_undoMany : Int32) (i_came : Int32) (a_comes : Nat → Int32) (a_hold : Nat → Int32) (a_below : Nat → Int32) (a_hay : Nat → Int32), fX12_town_J172 v1 i_houses i_typed i_thrown i_length i_top i_at i_wrong i_undoMany i_came a_comes a_hold a_below a_hay = some (r9, i_houses9, i_typed9, i_thrown9, r_read9, i_length9, i_top9, i_at9, i_wrong9, i_undoMany9, i_came9, a_comes9, a_hold9, a_below9, a_hay9) → GO p l e 3 s m args below meth c Q E A 4 172 [] [(0, .ref q0), (1, .int v1)] (WX12_town E q0 q0_now q0_hold q0_below q0_hay q0_weather q0_text q0_row q0_comes q0_rule q0_owedBy q0_undos q0_aside q0_acts q0_ring q0_bestRing q0_nets q0_worked q0_then q0_plan q0_bestPlan q0_tried q0_tracks q0_kept q0_isKept q0_keptCame i_houses i_weatherMany i_typed i_rowMany i_thrown 1 i_length i_top i_at i_wrong i_ruleSize i_isAsked i_askedInches i_askedPath i_askedDay i_askedRoof i_askedBelow i_askedLoose i_slidesMany i_owedNow i_slidInto i_undoMany i_bestLength i_setOff i_letLie i_trackMany i_came a_text a_comes a_hold a_below a_hay) := by
    intro v1 i_houses i_typed i_thrown i_length i_top i_at i_wrong i_undoMany i_came a_comes a_hold a_below a_hay hf H locs ls hl hP hD hS
    unfold fX12_town_J172 at hf
    refine lv_aload_n hx hb dX12_town_172 rfl (lv_at hl 0 rfl) ?_
    refine gf_RX12_117 C hP 0 rfl rfl dX12_town_173 ?_
    refine lv_aload_n hx hb dX12_town_176 rfl (lv_at hl 0 rfl) ?_
    refine gf_RX12_111 C hP 0 rfl rfl dX12_town_177 ?_
    refine lv_icmp_ge (tgt := 191) hx hb dX12_town_180 (by decide) (fun c34 => ?_) (fun c34 => ?_)
    · rw [if_pos c34] at hf
      exact J191 v1 i_houses i_typed i_thrown i_length i_top i_at i_wrong i_undoMany i_came a_comes a_hold a_below a_hay hf _ _ _ (lv_sub hl [0, 1] rfl) hP hD hS
    · rw [if_neg c34] at hf
      refine lv_aload_n hx hb dX12_town_183 rfl (lv_at hl 0 rfl) ?_
      refine lv_aload_n hx hb dX12_town_184 rfl (lv_at hl 0 rfl) ?_
      refine gf_RX12_117 C hP 0 rfl rfl dX12_town_185 ?_
      obtain ⟨o49, hg50, hf⟩ := bd_some hf
      refine k_VV (As := [.int i_at]) C K_RX12_135 (Nat.le_of_ble_eq_true rfl) (Nat.le_of_ble_eq_true rfl) (kX12_fault l E q0 q0_now q0_hold q0_below q0_hay q0_weather q0_text q0_row q0_comes q0_rule q0_owedBy q0_undos q0_aside q0_acts q0_ring q0_bestRing q0_nets q0_worked q0_then q0_plan q0_bestPlan q0_tried q0_tracks q0_kept q0_isKept q0_keptCame i_houses i_weatherMany i_typed i_rowMany i_thrown ((rdv 1 q0_text q0_rule)) i_length i_top i_at i_wrong i_ruleSize i_isAsked i_askedInches i_askedPath i_askedDay i_askedRoof i_askedBelow i_askedLoose i_slidesMany i_owedNow i_slidInto i_undoMany i_bestLength i_setOff i_letLie i_trackMany i_came i_at o49 hg50) [0] rfl rfl rfl (ci := 12) rfl rfl (q0 := 0) rfl hP hD hS hA hl.1 (Nat.le_of_ble_eq_true rfl) rfl dX12_town_188 (fun H locs hP hD hS => ?_)
      have hP : va_P E.1 classes (WX12_town E q0 q0_now q0_hold q0_below q0_hay q0_weather q0_text q0_row q0_comes q0_rule q0_owedBy q0_undos q0_aside q0_acts q0_ring q0_bestRing q0_nets q0_worked q0_then q0_plan q0_bestPlan q0_tried q0_tracks q0_kept q0_isKept q0_keptCame i_houses i_weatherMany i_typed i_rowMany i_thrown 1 i_length i_top i_at o49 i_ruleSize i_isAsked i_askedInches i_askedPath i_askedDay i_askedRoof i_askedBelow i_askedLoose i_slidesMany i_owedNow i_slidInto i_undoMany i_bestLength i_setOff i_letLie i_trackMany i_came a_text a_comes a_hold a_below a_hay) H := hP
      have hD : va_D A (WX12_town E q0 q0_now q0_hold q0_below q0_hay q0_weather q0_text q0_row q0_comes q0_rule q0_owedBy q0_undos q0_aside q0_acts q0_ring q0_bestRing q0_nets q0_worked q0_then q0_plan q0_bestPlan q0_tried q0_tracks q0_kept q0_isKept q0_keptCame i_houses i_weatherMany i_typed i_rowMany i_thrown 1 i_length i_top i_at o49 i_ruleSize i_isAsked i_askedInches i_askedPath i_askedDay i_askedRoof i_askedBelow i_askedLoose i_slidesMany i_owedNow i_slidInto i_undoMany i_bestLength i_setOff i_letLie i_trackMany i_came a_text a_comes a_hold a_below a_hay) := hD
      exact J191 v1 i_houses i_typed i_thrown i_length i_top i_at o49 i_undoMany i_came a_comes a_hold a_below a_hay hf _ _ _ (lv_sub hl [0, 1] rfl) hP hD hS
  intro H locs ls hl hP hD hS
  have hl : lv_has ls 4 [(0, .ref q0)] := hl
  unfold fX12_town at hf
  refine lv_aload_n hx hb dX12_town_0 rfl (lv_at hl 0 rfl) ?_
  refine lv_iconst (v := 0) hx hb dX12_town_1 (by decide) ?_
  refine pf_RX12_87 C hP hD hS 0 rfl (Nat.le_of_ble_eq_true rfl) dX12_town_2 (fun H locs hP hD hS => ?_)
  have hP : va_P E.1 classes (WX12_town E q0 q0_now q0_hold q0_below q0_hay q0_weather q0_text q0_row q0_comes q0_rule q0_owedBy q0_undos q0_aside q0_acts q0_ring q0_bestRing q0_nets q0_worked q0_then q0_plan q0_bestPlan q0_tried q0_tracks q0_kept q0_isKept q0_keptCame i_houses i_weatherMany i_typed i_rowMany 0 r_read i_length i_top i_at i_wrong i_ruleSize i_isAsked i_askedInches i_askedPath i_askedDay i_askedRoof i_askedBelow i_askedLoose i_slidesMany i_owedNow i_slidInto i_undoMany i_bestLength i_setOff i_letLie i_trackMany i_came a_text a_comes a_hold a_below a_hay) H := hP
  have hD : va_D A (WX12_town E q0 q0_now q0_hold q0_below q0_hay q0_weather q0_text q0_row q0_comes q0_rule q0_owedBy q0_undos q0_aside q0_acts q0_ring q0_bestRing q0_nets q0_worked q0_then q0_plan q0_bestPlan q0_tried q0_tracks q0_kept q0_isKept q0_keptCame i_houses i_weatherMany i_typed i_rowMany 0 r_read i_length i_top i_at i_wrong i_ruleSize i_isAsked i_askedInches i_askedPath i_askedDay i_askedRoof i_askedBelow i_askedLoose i_slidesMany i_owedNow i_slidInto i_undoMany i_bestLength i_setOff i_letLie i_trackMany i_came a_text a_comes a_hold a_below a_hay) := hD
  refine lv_aload_n hx hb dX12_town_5 rfl (lv_at hl 0 rfl) ?_
  refine lv_aload_n hx hb dX12_town_6 rfl (lv_at hl 0 rfl) ?_
  refine gf_RX12_25 C hP 0 rfl rfl dX12_town_7 ?_
  refine lv_aload_n hx hb dX12_town_10 rfl (lv_at hl 0 rfl) ?_
  refine gf_RX12_105 C hP 0 rfl rfl dX12_town_11 ?_
  refine lv_bipush (v := 76) hx hb dX12_town_14 (by decide) ?_
  obtain ⟨o1, hg2, hf⟩ := bd_some hf
  refine k_VV (As := [.ref q0_text, .int i_typed, .int 76]) C K_RX12_139 (Nat.le_of_ble_eq_true rfl) (Nat.le_of_ble_eq_true rfl) (kX12_begin l E q0 q0_now q0_hold q0_below q0_hay q0_weather q0_text q0_row q0_comes q0_rule q0_owedBy q0_undos q0_aside q0_acts q0_ring q0_bestRing q0_nets q0_worked q0_then q0_plan q0_bestPlan q0_tried q0_tracks q0_kept q0_isKept q0_keptCame q0_text i_houses i_weatherMany i_typed i_rowMany 0 ((rdv r_read q0_text q0_rule)) i_length i_top i_at i_wrong i_ruleSize i_isAsked i_askedInches i_askedPath i_askedDay i_askedRoof i_askedBelow i_askedLoose i_slidesMany i_owedNow i_slidInto i_undoMany i_bestLength i_setOff i_letLie i_trackMany i_came i_typed 76 o1.1 o1.2.1 o1.2.2.1 o1.2.2.2 hg2) [0] rfl rfl rfl (ci := 12) rfl rfl (q0 := 0) rfl hP hD hS hA hl.1 (Nat.le_of_ble_eq_true rfl) rfl dX12_town_16 (fun H locs hP hD hS => ?_)
  have hP : va_P E.1 classes (WX12_town E q0 q0_now q0_hold q0_below q0_hay q0_weather q0_text q0_row q0_comes q0_rule q0_owedBy q0_undos q0_aside q0_acts q0_ring q0_bestRing q0_nets q0_worked q0_then q0_plan q0_bestPlan q0_tried q0_tracks q0_kept q0_isKept q0_keptCame i_houses i_weatherMany i_typed i_rowMany 0 1 o1.1 o1.2.1 o1.2.2.1 o1.2.2.2 i_ruleSize i_isAsked i_askedInches i_askedPath i_askedDay i_askedRoof i_askedBelow i_askedLoose i_slidesMany i_owedNow i_slidInto i_undoMany i_bestLength i_setOff i_letLie i_trackMany i_came a_text a_comes a_hold a_below a_hay) H := hP
  have hD : va_D A (WX12_town E q0 q0_now q0_hold q0_below q0_hay q0_weather q0_text q0_row q0_comes q0_rule q0_owedBy q0_undos q0_aside q0_acts q0_ring q0_bestRing q0_nets q0_worked q0_then q0_plan q0_bestPlan q0_tried q0_tracks q0_kept q0_isKept q0_keptCame i_houses i_weatherMany i_typed i_rowMany 0 1 o1.1 o1.2.1 o1.2.2.1 o1.2.2.2 i_ruleSize i_isAsked i_askedInches i_askedPath i_askedDay i_askedRoof i_askedBelow i_askedLoose i_slidesMany i_owedNow i_slidInto i_undoMany i_bestLength i_setOff i_letLie i_trackMany i_came a_text a_comes a_hold a_below a_hay) := hD
  refine lv_aload_n hx hb dX12_town_19 rfl (lv_at hl 0 rfl) ?_
  refine lv_iconst (v := 0) hx hb dX12_town_20 (by decide) ?_
  refine pf_RX12_105 C hP hD hS 0 rfl (Nat.le_of_ble_eq_true rfl) dX12_town_21 (fun H locs hP hD hS => ?_)
  have hP : va_P E.1 classes (WX12_town E q0 q0_now q0_hold q0_below q0_hay q0_weather q0_text q0_row q0_comes q0_rule q0_owedBy q0_undos q0_aside q0_acts q0_ring q0_bestRing q0_nets q0_worked q0_then q0_plan q0_bestPlan q0_tried q0_tracks q0_kept q0_isKept q0_keptCame i_houses i_weatherMany 0 i_rowMany 0 1 o1.1 o1.2.1 o1.2.2.1 o1.2.2.2 i_ruleSize i_isAsked i_askedInches i_askedPath i_askedDay i_askedRoof i_askedBelow i_askedLoose i_slidesMany i_owedNow i_slidInto i_undoMany i_bestLength i_setOff i_letLie i_trackMany i_came a_text a_comes a_hold a_below a_hay) H := hP
  have hD : va_D A (WX12_town E q0 q0_now q0_hold q0_below q0_hay q0_weather q0_text q0_row q0_comes q0_rule q0_owedBy q0_undos q0_aside q0_acts q0_ring q0_bestRing q0_nets q0_worked q0_then q0_plan q0_bestPlan q0_tried q0_tracks q0_kept q0_isKept q0_keptCame i_houses i_weatherMany 0 i_rowMany 0 1 o1.1 o1.2.1 o1.2.2.1 o1.2.2.2 i_ruleSize i_isAsked i_askedInches i_askedPath i_askedDay i_askedRoof i_askedBelow i_askedLoose i_slidesMany i_owedNow i_slidInto i_undoMany i_bestLength i_setOff i_letLie i_trackMany i_came a_text a_comes a_hold a_below a_hay) := hD
  refine lv_aload_n hx hb dX12_town_24 rfl (lv_at hl 0 rfl) ?_
  refine gf_RX12_111 C hP 0 rfl rfl dX12_town_25 ?_
  refine lv_if_ne (tgt := 33) hx hb dX12_town_28 (by decide) (fun c3 => ?_) (fun c3 => ?_)
  · rw [if_neg c3] at hf
    refine lv_iconst (v := 0) hx hb dX12_town_33 (by decide) ?_
    refine lv_istore_n (lv' := [(1, .int 0), (0, .ref q0)]) hx hb dX12_town_34 rfl hl (by decide) rfl (fun ls hl => ?_)
    refine lv_iconst (v := 1) hx hb dX12_town_35 (by decide) ?_
    refine lv_istore_n (lv' := [(2, .int 1), (1, .int 0), (0, .ref q0)]) hx hb dX12_town_36 rfl hl (by decide) rfl (fun ls hl => ?_)
    obtain ⟨o32, hg33, hf⟩ := bd_some hf
    refine L37 i_houses 0 0 o1.1 o1.2.1 i_undoMany i_came a_hold a_below a_hay FU 0 1 o1.2.2.1 o1.2.2.2 a_comes o32 hg33 ?_ _ _ _ (lv_sub hl [2, 1, 0] rfl) hP hD hS
    intro H locs ls hl hP hD hS
    exact J172 o32.1 i_houses 0 0 o1.1 o1.2.1 o32.2.1 o32.2.2.1 i_undoMany i_came o32.2.2.2 a_hold a_below a_hay hf _ _ _ (lv_sub hl [0, 1] rfl) hP hD hS
  · rw [if_pos c3] at hf
    refine lv_iconst (v := 0) hx hb dX12_town_31 (by decide) ?_
    have hj0 := Option.some.inj hf
    obtain ⟨ha0, hj1⟩ := Prod.mk.inj hj0
    obtain ⟨ha1, hj2⟩ := Prod.mk.inj hj1
    obtain ⟨ha2, hj3⟩ := Prod.mk.inj hj2
    obtain ⟨ha3, hj4⟩ := Prod.mk.inj hj3
    obtain ⟨ha4, hj5⟩ := Prod.mk.inj hj4
    obtain ⟨ha5, hj6⟩ := Prod.mk.inj hj5
    obtain ⟨ha6, hj7⟩ := Prod.mk.inj hj6
    obtain ⟨ha7, hj8⟩ := Prod.mk.inj hj7
    obtain ⟨ha8, hj9⟩ := Prod.mk.inj hj8
    obtain ⟨ha9, hj10⟩ := Prod.mk.inj hj9
    obtain ⟨ha10, hj11⟩ := Prod.mk.inj hj10
    obtain ⟨ha11, hj12⟩ := Prod.mk.inj hj11
    obtain ⟨ha12, hj13⟩ := Prod.mk.inj hj12
    obtain ⟨ha13, hj14⟩ := Prod.mk.inj hj13
    subst ha0
    subst ha1
    subst ha2
    subst ha3
    subst ha4
    subst ha5
    subst ha6
    subst ha7
    subst ha8
    subst ha9
    subst ha10
    subst ha11
    subst ha12
    subst ha13
    subst hj14
    exact hret _ _ _ _ dX12_town_32 rfl hP hD hS
theorem q1331 : Cond.fieldLink RX12 22 "SnowForSummerModel" "weather" "[I" ∈ Tg := Tg_mem 1331 (by decide +kernel) (by decide +kernel)
theorem gf_RX12_22 {p : Program} {l : Launch} {e : Env} {R : Room} {s : State} {m : MethodId} {args : Array Value} {below : List Frame} {meth : Method} {c : Code} {H : Heap} {locs : List Loc} {cells slots : Nat} {Q : State → Prop} {E : ENV} {cc : ByteArray} {n : Nat} {r : Option FieldType} {pc : Nat} {ls : Array Slot} {rest : List Value} {a : Nat} {ws : va_W} {nm ds : String} {fs : List Value} {A : Nat → Prop} {v : Value} (C : Cx E A ⟨RX12, nm, ds⟩ cc n r p s m args meth c) (hP : va_P E.1 classes ws H) (q0 : Nat) (he : ws[q0]? = some (a, .inr (12, fs))) (hv : fs[5]? = some v) (hdg : decode cc pc = .ok (.getfield 22, 3))
    (kk : W p l e R s m args below meth c H locs cells slots Q (F0 m (pc + 3) ls (v :: rest))) : W p l e R s m args below meth c H locs cells slots Q (F0 m pc ls (.ref a :: rest)) :=
  va_get (C := RX12) (T := TX12) (N := 52) (Ts := wl ⟨RX12, nm, ds⟩ cc n r) C.1 C.2.1 C.2.2.2.2.1 (fun w h => List.mem_cons_of_mem _ (inT12 w h)) C.2.2.2.1 C.2.2.2.2.2.1 hP q0 he rfl 5 (by decide) (C.2.2.2.2.1 _ (List.mem_cons_of_mem _ q1331)) (fun _ h9 => h9) hv hdg kk
theorem q1332 : Cond.fieldLink RX12 157 "SnowForSummerModel" "weatherMany" "I" ∈ Tg := Tg_mem 1332 (by decide +kernel) (by decide +kernel)
theorem pf_RX12_157 {p : Program} {l : Launch} {e : Env} {R : Room} {s : State} {m : MethodId} {args : Array Value} {below : List Frame} {meth : Method} {c : Code} {H : Heap} {locs : List Loc} {cells slots : Nat} {Q : State → Prop} {E : ENV} {cc : ByteArray} {n : Nat} {r : Option FieldType} {pc : Nat} {ls : Array Slot} {rest : List Value} {a : Nat} {ws : va_W} {nm ds : String} {fs : List Value} {A : Nat → Prop} {H0 : Heap} {x : Int32} (C : Cx E A ⟨RX12, nm, ds⟩ cc n r p s m args meth c) (hP : va_P E.1 classes ws H) (hD : va_D A ws) (hS : va_S A H0 H locs) (q0 : Nat) (he : ws[q0]? = some (a, .inr (12, fs))) (hl : 6 < fs.length) (hdg : decode cc pc = .ok (.putfield 157, 3))
    (kk : ∀ (H1 : Heap) (locs1 : List Loc), va_P E.1 classes (ws.set q0 (a, .inr (12, fs.set 6 (.int x)))) H1 → va_D A (ws.set q0 (a, .inr (12, fs.set 6 (.int x)))) → va_S A H0 H1 locs1 → W p l e R s m args below meth c H1 locs1 cells slots Q (F0 m (pc + 3) ls rest)) : W p l e R s m args below meth c H locs cells slots Q (F0 m pc ls (.int x :: .ref a :: rest)) :=
  va_put (C := RX12) (T := TX12) (N := 52) (ty := .int) (Ts := wl ⟨RX12, nm, ds⟩ cc n r) C.1 C.2.1 C.2.2.2.2.1 (fun w h => List.mem_cons_of_mem _ (inT12 w h)) tyX12 tyX12_ok nmX12 C.2.2.2.1 C.2.2.2.2.2.1 hP hD hS q0 he rfl 6 (by decide) (C.2.2.2.2.1 _ (List.mem_cons_of_mem _ q1332)) (fun _ h9 => h9) rfl (by decide +kernel) rfl rfl hl hdg kk
theorem dX12_weather_0 : decode cX12_weather 0 = .ok (.aload_n 0, 1) := by decide +kernel
theorem dX12_weather_1 : decode cX12_weather 1 = .ok (.iconst 0, 1) := by decide +kernel
theorem dX12_weather_2 : decode cX12_weather 2 = .ok (.putfield 87, 3) := by decide +kernel
theorem dX12_weather_5 : decode cX12_weather 5 = .ok (.aload_n 0, 1) := by decide +kernel
theorem dX12_weather_6 : decode cX12_weather 6 = .ok (.getfield 105, 3) := by decide +kernel
theorem dX12_weather_9 : decode cX12_weather 9 = .ok (.istore_n 1, 1) := by decide +kernel
theorem dX12_weather_10 : decode cX12_weather 10 = .ok (.aload_n 0, 1) := by decide +kernel
theorem dX12_weather_11 : decode cX12_weather 11 = .ok (.iconst 0, 1) := by decide +kernel
theorem dX12_weather_12 : decode cX12_weather 12 = .ok (.putfield 105, 3) := by decide +kernel
theorem dX12_weather_15 : decode cX12_weather 15 = .ok (.iconst 0, 1) := by decide +kernel
theorem dX12_weather_16 : decode cX12_weather 16 = .ok (.istore_n 2, 1) := by decide +kernel
theorem dX12_weather_17 : decode cX12_weather 17 = .ok (.iload_n 2, 1) := by decide +kernel
theorem dX12_weather_18 : decode cX12_weather 18 = .ok (.iload_n 1, 1) := by decide +kernel
theorem dX12_weather_19 : decode cX12_weather 19 = .ok (.if_icmp .ge 51, 3) := by decide +kernel
theorem dX12_weather_22 : decode cX12_weather 22 = .ok (.iload_n 2, 1) := by decide +kernel
theorem dX12_weather_23 : decode cX12_weather 23 = .ok (.bipush 40, 2) := by decide +kernel
theorem dX12_weather_25 : decode cX12_weather 25 = .ok (.if_icmp .eq 35, 3) := by decide +kernel
theorem dX12_weather_28 : decode cX12_weather 28 = .ok (.aload_n 0, 1) := by decide +kernel
theorem dX12_weather_29 : decode cX12_weather 29 = .ok (.getfield 25, 3) := by decide +kernel
theorem dX12_weather_32 : decode cX12_weather 32 = .ok (.iload_n 2, 1) := by decide +kernel
theorem dX12_weather_33 : decode cX12_weather 33 = .ok (.baload, 1) := by decide +kernel
theorem dX12_weather_34 : decode cX12_weather 34 = .ok (.bipush 48, 2) := by decide +kernel
theorem dX12_weather_36 : decode cX12_weather 36 = .ok (.bipush 57, 2) := by decide +kernel
theorem dX12_weather_38 : decode cX12_weather 38 = .ok (.invokestatic 97, 3) := by decide +kernel
theorem dX12_weather_41 : decode cX12_weather 41 = .ok (.ifCond .ne 23, 3) := by decide +kernel
theorem dX12_weather_44 : decode cX12_weather 44 = .ok (.aload_n 0, 1) := by decide +kernel
theorem dX12_weather_45 : decode cX12_weather 45 = .ok (.getfield 25, 3) := by decide +kernel
theorem dX12_weather_48 : decode cX12_weather 48 = .ok (.iload_n 2, 1) := by decide +kernel
theorem dX12_weather_49 : decode cX12_weather 49 = .ok (.baload, 1) := by decide +kernel
theorem dX12_weather_50 : decode cX12_weather 50 = .ok (.bipush 97, 2) := by decide +kernel
theorem dX12_weather_52 : decode cX12_weather 52 = .ok (.bipush 105, 2) := by decide +kernel
theorem dX12_weather_54 : decode cX12_weather 54 = .ok (.invokestatic 97, 3) := by decide +kernel
theorem dX12_weather_57 : decode cX12_weather 57 = .ok (.ifCond .ne 7, 3) := by decide +kernel
theorem dX12_weather_60 : decode cX12_weather 60 = .ok (.iconst (-1), 1) := by decide +kernel
theorem dX12_weather_61 : decode cX12_weather 61 = .ok (.iload_n 2, 1) := by decide +kernel
theorem dX12_weather_62 : decode cX12_weather 62 = .ok (.isub, 1) := by decide +kernel
theorem dX12_weather_63 : decode cX12_weather 63 = .ok (.ireturn, 1) := by decide +kernel
theorem dX12_weather_64 : decode cX12_weather 64 = .ok (.iinc 2 1, 3) := by decide +kernel
theorem dX12_weather_67 : decode cX12_weather 67 = .ok (.goto (-50), 3) := by decide +kernel
theorem dX12_weather_70 : decode cX12_weather 70 = .ok (.iconst 0, 1) := by decide +kernel
theorem dX12_weather_71 : decode cX12_weather 71 = .ok (.istore_n 2, 1) := by decide +kernel
theorem dX12_weather_72 : decode cX12_weather 72 = .ok (.iload_n 2, 1) := by decide +kernel
theorem dX12_weather_73 : decode cX12_weather 73 = .ok (.iload_n 1, 1) := by decide +kernel
theorem dX12_weather_74 : decode cX12_weather 74 = .ok (.if_icmp .ge 55, 3) := by decide +kernel
theorem dX12_weather_77 : decode cX12_weather 77 = .ok (.aload_n 0, 1) := by decide +kernel
theorem dX12_weather_78 : decode cX12_weather 78 = .ok (.getfield 22, 3) := by decide +kernel
theorem dX12_weather_81 : decode cX12_weather 81 = .ok (.iload_n 2, 1) := by decide +kernel
theorem dX12_weather_82 : decode cX12_weather 82 = .ok (.aload_n 0, 1) := by decide +kernel
theorem dX12_weather_83 : decode cX12_weather 83 = .ok (.getfield 25, 3) := by decide +kernel
theorem dX12_weather_86 : decode cX12_weather 86 = .ok (.iload_n 2, 1) := by decide +kernel
theorem dX12_weather_87 : decode cX12_weather 87 = .ok (.baload, 1) := by decide +kernel
theorem dX12_weather_88 : decode cX12_weather 88 = .ok (.bipush 48, 2) := by decide +kernel
theorem dX12_weather_90 : decode cX12_weather 90 = .ok (.bipush 57, 2) := by decide +kernel
theorem dX12_weather_92 : decode cX12_weather 92 = .ok (.invokestatic 97, 3) := by decide +kernel
theorem dX12_weather_95 : decode cX12_weather 95 = .ok (.ifCond .eq 15, 3) := by decide +kernel
theorem dX12_weather_98 : decode cX12_weather 98 = .ok (.aload_n 0, 1) := by decide +kernel
theorem dX12_weather_99 : decode cX12_weather 99 = .ok (.getfield 25, 3) := by decide +kernel
theorem dX12_weather_102 : decode cX12_weather 102 = .ok (.iload_n 2, 1) := by decide +kernel
theorem dX12_weather_103 : decode cX12_weather 103 = .ok (.baload, 1) := by decide +kernel
theorem dX12_weather_104 : decode cX12_weather 104 = .ok (.bipush 48, 2) := by decide +kernel
theorem dX12_weather_106 : decode cX12_weather 106 = .ok (.isub, 1) := by decide +kernel
theorem dX12_weather_107 : decode cX12_weather 107 = .ok (.goto 15, 3) := by decide +kernel
theorem dX12_weather_110 : decode cX12_weather 110 = .ok (.aload_n 0, 1) := by decide +kernel
theorem dX12_weather_111 : decode cX12_weather 111 = .ok (.getfield 25, 3) := by decide +kernel
theorem dX12_weather_114 : decode cX12_weather 114 = .ok (.iload_n 2, 1) := by decide +kernel
theorem dX12_weather_115 : decode cX12_weather 115 = .ok (.baload, 1) := by decide +kernel
theorem dX12_weather_116 : decode cX12_weather 116 = .ok (.bipush 97, 2) := by decide +kernel
theorem dX12_weather_118 : decode cX12_weather 118 = .ok (.isub, 1) := by decide +kernel
theorem dX12_weather_119 : decode cX12_weather 119 = .ok (.iconst 1, 1) := by decide +kernel
theorem dX12_weather_120 : decode cX12_weather 120 = .ok (.iadd, 1) := by decide +kernel
theorem dX12_weather_121 : decode cX12_weather 121 = .ok (.ineg, 1) := by decide +kernel
theorem dX12_weather_122 : decode cX12_weather 122 = .ok (.iastore, 1) := by decide +kernel
theorem dX12_weather_123 : decode cX12_weather 123 = .ok (.iinc 2 1, 3) := by decide +kernel
theorem dX12_weather_126 : decode cX12_weather 126 = .ok (.goto (-54), 3) := by decide +kernel
theorem dX12_weather_129 : decode cX12_weather 129 = .ok (.aload_n 0, 1) := by decide +kernel
theorem dX12_weather_130 : decode cX12_weather 130 = .ok (.iload_n 1, 1) := by decide +kernel
theorem dX12_weather_131 : decode cX12_weather 131 = .ok (.putfield 157, 3) := by decide +kernel
theorem dX12_weather_134 : decode cX12_weather 134 = .ok (.iload_n 1, 1) := by decide +kernel
theorem dX12_weather_135 : decode cX12_weather 135 = .ok (.ireturn, 1) := by decide +kernel
def WX12_weather (E : ENV) (q0 : Nat) (q0_now : Nat) (q0_hold : Nat) (q0_below : Nat) (q0_hay : Nat) (q0_weather : Nat) (q0_text : Nat) (q0_row : Nat) (q0_comes : Nat) (q0_rule : Nat) (q0_owedBy : Nat) (q0_undos : Nat) (q0_aside : Nat) (q0_acts : Nat) (q0_ring : Nat) (q0_bestRing : Nat) (q0_nets : Nat) (q0_worked : Nat) (q0_then : Nat) (q0_plan : Nat) (q0_bestPlan : Nat) (q0_tried : Nat) (q0_tracks : Nat) (q0_kept : Nat) (q0_isKept : Nat) (q0_keptCame : Nat) (i_houses : Int32) (i_weatherMany : Int32) (i_typed : Int32) (i_rowMany : Int32) (i_thrown : Int32) (x_read : Value) (i_length : Int32) (i_top : Int32) (i_at : Int32) (i_wrong : Int32) (i_ruleSize : Int32) (i_isAsked : Int32) (i_askedInches : Int32) (i_askedPath : Int32) (i_askedDay : Int32) (i_askedRoof : Int32) (i_askedBelow : Int32) (i_askedLoose : Int32) (i_slidesMany : Int32) (i_owedNow : Int32) (i_slidInto : Int32) (i_undoMany : Int32) (i_bestLength : Int32) (i_setOff : Int32) (i_letLie : Int32) (i_trackMany : Int32) (i_came : Int32) (a_text : Nat → Int32) (a_weather : Nat → Int32) : va_W := [(q0, .inr (12, [.ref q0_now, .int i_houses, .ref q0_hold, .ref q0_below, .ref q0_hay, .ref q0_weather, .int i_weatherMany, .ref q0_text, .int i_typed, .ref q0_row, .int i_rowMany, .int i_thrown, x_read, .int i_length, .int i_top, .int i_at, .int i_wrong, .ref q0_comes, .ref q0_rule, .int i_ruleSize, .int i_isAsked, .int i_askedInches, .int i_askedPath, .int i_askedDay, .int i_askedRoof, .int i_askedBelow, .int i_askedLoose, .int i_slidesMany, .int i_owedNow, .ref q0_owedBy, .int i_slidInto, .ref q0_undos, .int i_undoMany, .ref q0_aside, .ref q0_acts, .ref q0_ring, .ref q0_bestRing, .int i_bestLength, .ref q0_nets, .ref q0_worked, .ref q0_then, .ref q0_plan, .ref q0_bestPlan, .ref q0_tried, .int i_setOff, .int i_letLie, .ref q0_tracks, .int i_trackMany, .int i_came, .ref q0_kept, .ref q0_isKept, .ref q0_keptCame])), (q0_text, .inl (E.2.2.1, 80, .inl a_text)), (q0_weather, .inl (E.2.1, 40, .inl a_weather))]
set_option maxHeartbeats 4000000 in
set_option maxRecDepth 20000 in
theorem kX12_weather (l : Launch) (E : ENV) (q0 : Nat) (q0_now : Nat) (q0_hold : Nat) (q0_below : Nat) (q0_hay : Nat) (q0_weather : Nat) (q0_text : Nat) (q0_row : Nat) (q0_comes : Nat) (q0_rule : Nat) (q0_owedBy : Nat) (q0_undos : Nat) (q0_aside : Nat) (q0_acts : Nat) (q0_ring : Nat) (q0_bestRing : Nat) (q0_nets : Nat) (q0_worked : Nat) (q0_then : Nat) (q0_plan : Nat) (q0_bestPlan : Nat) (q0_tried : Nat) (q0_tracks : Nat) (q0_kept : Nat) (q0_isKept : Nat) (q0_keptCame : Nat) (i_houses : Int32) (i_weatherMany : Int32) (i_typed : Int32) (i_rowMany : Int32) (i_thrown : Int32) (x_read : Value) (i_length : Int32) (i_top : Int32) (i_at : Int32) (i_wrong : Int32) (i_ruleSize : Int32) (i_isAsked : Int32) (i_askedInches : Int32) (i_askedPath : Int32) (i_askedDay : Int32) (i_askedRoof : Int32) (i_askedBelow : Int32) (i_askedLoose : Int32) (i_slidesMany : Int32) (i_owedNow : Int32) (i_slidInto : Int32) (i_undoMany : Int32) (i_bestLength : Int32) (i_setOff : Int32) (i_letLie : Int32) (i_trackMany : Int32) (i_came : Int32) (a_text : Nat → Int32) (a_weather : Nat → Int32) (r9 : Int32) (i_weatherMany9 : Int32) (i_typed9 : Int32) (i_thrown9 : Int32) (a_weather9 : Nat → Int32) (hf : fX12_weather i_weatherMany i_typed i_thrown a_text a_weather = some (r9, i_weatherMany9, i_typed9, i_thrown9, a_weather9)) : CI l E yX12_weather cX12_weather 3 (some .int) 1 [.ref q0] (WX12_weather E q0 q0_now q0_hold q0_below q0_hay q0_weather q0_text q0_row q0_comes q0_rule q0_owedBy q0_undos q0_aside q0_acts q0_ring q0_bestRing q0_nets q0_worked q0_then q0_plan q0_bestPlan q0_tried q0_tracks q0_kept q0_isKept q0_keptCame i_houses i_weatherMany i_typed i_rowMany i_thrown x_read i_length i_top i_at i_wrong i_ruleSize i_isAsked i_askedInches i_askedPath i_askedDay i_askedRoof i_askedBelow i_askedLoose i_slidesMany i_owedNow i_slidInto i_undoMany i_bestLength i_setOff i_letLie i_trackMany i_came a_text a_weather) (WX12_weather E q0 q0_now q0_hold q0_below q0_hay q0_weather q0_text q0_row q0_comes q0_rule q0_owedBy q0_undos q0_aside q0_acts q0_ring q0_bestRing q0_nets q0_worked q0_then q0_plan q0_bestPlan q0_tried q0_tracks q0_kept q0_isKept q0_keptCame i_houses i_weatherMany9 i_typed9 i_rowMany i_thrown9 x_read i_length i_top i_at i_wrong i_ruleSize i_isAsked i_askedInches i_askedPath i_askedDay i_askedRoof i_askedBelow i_askedLoose i_slidesMany i_owedNow i_slidInto i_undoMany i_bestLength i_setOff i_letLie i_trackMany i_came a_text a_weather9) r9 := by
  refine begI (by decide +kernel) (Nat.le_of_ble_eq_true rfl) ?_
  intro p e s m args below meth c A Q C hA hret
  have hx := C.1
  have hb := C.2.1
  have L17 : ∀ (v1 : Int32) (i_weatherMany : Int32) (i_typed : Int32) (i_thrown : Int32) (a_weather : Nat → Int32), ∀ (n : Nat) (v2 : Int32) (o : (Unit) ⊕ (Int32 × Int32 × Int32 × Int32 × (Nat → Int32))), fX12_weather_L17 a_text v1 i_weatherMany i_typed i_thrown a_weather n v2 = some o → (∀ x, o = Sum.inl x → GO p l e 1 s m args below meth c Q E A 3 70 [] [(0, .ref q0), (1, .int v1)] (WX12_weather E q0 q0_now q0_hold q0_below q0_hay q0_weather q0_text q0_row q0_comes q0_rule q0_owedBy q0_undos q0_aside q0_acts q0_ring q0_bestRing q0_nets q0_worked q0_then q0_plan q0_bestPlan q0_tried q0_tracks q0_kept q0_isKept q0_keptCame i_houses i_weatherMany i_typed i_rowMany i_thrown x_read i_length i_top i_at i_wrong i_ruleSize i_isAsked i_askedInches i_askedPath i_askedDay i_askedRoof i_askedBelow i_askedLoose i_slidesMany i_owedNow i_slidInto i_undoMany i_bestLength i_setOff i_letLie i_trackMany i_came a_text a_weather)) → (∀ x, o = Sum.inr x → x = (r9, i_weatherMany9, i_typed9, i_thrown9, a_weather9)) → GO p l e 1 s m args below meth c Q E A 3 17 [] [(0, .ref q0), (1, .int v1), (2, .int v2)] (WX12_weather E q0 q0_now q0_hold q0_below q0_hay q0_weather q0_text q0_row q0_comes q0_rule q0_owedBy q0_undos q0_aside q0_acts q0_ring q0_bestRing q0_nets q0_worked q0_then q0_plan q0_bestPlan q0_tried q0_tracks q0_kept q0_isKept q0_keptCame i_houses i_weatherMany i_typed i_rowMany i_thrown x_read i_length i_top i_at i_wrong i_ruleSize i_isAsked i_askedInches i_askedPath i_askedDay i_askedRoof i_askedBelow i_askedLoose i_slidesMany i_owedNow i_slidInto i_undoMany i_bestLength i_setOff i_letLie i_trackMany i_came a_text a_weather) := by
    intro v1 i_weatherMany i_typed i_thrown a_weather
    intro n
    induction n with
    | zero =>
      intro v2 o hf
      have hf : none = some o := hf
      cases hf
    | succ n ih =>
      intro v2 o hf hE hR
      intro H locs ls hl hP hD hS
      rw [fX12_weather_L17] at hf
      refine lv_iload_n hx hb dX12_weather_17 rfl (lv_at hl 2 rfl) ?_
      refine lv_iload_n hx hb dX12_weather_18 rfl (lv_at hl 1 rfl) ?_
      refine lv_icmp_ge (tgt := 70) hx hb dX12_weather_19 (by decide) (fun c1 => ?_) (fun c1 => ?_)
      · rw [if_pos c1] at hf
        have hf := Option.some.inj hf
        subst hf
        exact (hE _ rfl) _ _ _ (lv_sub hl [0, 1] rfl) hP hD hS
      · rw [if_neg c1] at hf
        refine lv_iload_n hx hb dX12_weather_22 rfl (lv_at hl 2 rfl) ?_
        refine lv_bipush (v := 40) hx hb dX12_weather_23 (by decide) ?_
        refine lv_icmp_eq (tgt := 60) hx hb dX12_weather_25 (by decide) (fun c2 => ?_) (fun c2 => ?_)
        · rw [if_pos c2] at hf
          refine lv_iconst (v := (-1)) hx hb dX12_weather_60 (by decide) ?_
          refine lv_iload_n hx hb dX12_weather_61 rfl (lv_at hl 2 rfl) ?_
          refine lv_isub hx hb dX12_weather_62 ?_
          have hf := Option.some.inj hf
          subst hf
          have hj0 := hR _ rfl
          obtain ⟨ha0, hj1⟩ := Prod.mk.inj hj0
          obtain ⟨ha1, hj2⟩ := Prod.mk.inj hj1
          obtain ⟨ha2, hj3⟩ := Prod.mk.inj hj2
          obtain ⟨ha3, hj4⟩ := Prod.mk.inj hj3
          subst ha0
          subst ha1
          subst ha2
          subst ha3
          subst hj4
          exact hret _ _ _ _ dX12_weather_63 rfl hP hD hS
        · rw [if_neg c2] at hf
          refine lv_aload_n hx hb dX12_weather_28 rfl (lv_at hl 0 rfl) ?_
          refine gf_RX12_25 C hP 0 rfl rfl dX12_weather_29 ?_
          refine lv_iload_n hx hb dX12_weather_32 rfl (lv_at hl 2 rfl) ?_
          obtain ⟨g3, hf⟩ := gd_some hf
          refine va_bald hx hb C.2.2.2.2.2.1 hP 1 1 rfl rfl (vin_in g3) dX12_weather_33 ?_
          refine lv_bipush (v := 48) hx hb dX12_weather_34 (by decide) ?_
          refine lv_bipush (v := 57) hx hb dX12_weather_36 (by decide) ?_
          obtain ⟨o4, hg5, hf⟩ := bd_some hf
          refine k_SI (As := [.int ((a_text (v2 : Int32).toNatClampNeg)), .int 48, .int 57]) C K_RX12_97 (Nat.le_of_ble_eq_true rfl) (Nat.le_of_ble_eq_true rfl) (kX12_in l E ((a_text (v2 : Int32).toNatClampNeg)) 48 57 o4 hg5) [] rfl rfl rfl  hP hD hS hA hl.1 (Nat.le_of_ble_eq_true rfl) rfl dX12_weather_38 (fun H locs hP hD hS => ?_)
          have hP : va_P E.1 classes (WX12_weather E q0 q0_now q0_hold q0_below q0_hay q0_weather q0_text q0_row q0_comes q0_rule q0_owedBy q0_undos q0_aside q0_acts q0_ring q0_bestRing q0_nets q0_worked q0_then q0_plan q0_bestPlan q0_tried q0_tracks q0_kept q0_isKept q0_keptCame i_houses i_weatherMany i_typed i_rowMany i_thrown x_read i_length i_top i_at i_wrong i_ruleSize i_isAsked i_askedInches i_askedPath i_askedDay i_askedRoof i_askedBelow i_askedLoose i_slidesMany i_owedNow i_slidInto i_undoMany i_bestLength i_setOff i_letLie i_trackMany i_came a_text a_weather) H := hP
          have hD : va_D A (WX12_weather E q0 q0_now q0_hold q0_below q0_hay q0_weather q0_text q0_row q0_comes q0_rule q0_owedBy q0_undos q0_aside q0_acts q0_ring q0_bestRing q0_nets q0_worked q0_then q0_plan q0_bestPlan q0_tried q0_tracks q0_kept q0_isKept q0_keptCame i_houses i_weatherMany i_typed i_rowMany i_thrown x_read i_length i_top i_at i_wrong i_ruleSize i_isAsked i_askedInches i_askedPath i_askedDay i_askedRoof i_askedBelow i_askedLoose i_slidesMany i_owedNow i_slidInto i_undoMany i_bestLength i_setOff i_letLie i_trackMany i_came a_text a_weather) := hD
          refine lv_if_ne (tgt := 64) hx hb dX12_weather_41 (by decide) (fun c6 => ?_) (fun c6 => ?_)
          · rw [if_neg c6] at hf
            refine lv_iinc (v := (v2 + 1)) (lv' := [(2, .int ((v2 + 1))), (0, .ref q0), (1, .int v1)]) hx hb dX12_weather_64 hl (k := 2) rfl rfl (by decide) rfl (fun ls hl => ?_)
            refine lv_goto (tgt := 17) hx hb dX12_weather_67 (by decide) ?_
            exact ih ((v2 + 1)) _ hf hE hR _ _ _ (lv_sub hl [1, 2, 0] rfl) hP hD hS
          · rw [if_pos c6] at hf
            refine lv_aload_n hx hb dX12_weather_44 rfl (lv_at hl 0 rfl) ?_
            refine gf_RX12_25 C hP 0 rfl rfl dX12_weather_45 ?_
            refine lv_iload_n hx hb dX12_weather_48 rfl (lv_at hl 2 rfl) ?_
            obtain ⟨g7, hf⟩ := gd_some hf
            refine va_bald hx hb C.2.2.2.2.2.1 hP 1 1 rfl rfl (vin_in g7) dX12_weather_49 ?_
            refine lv_bipush (v := 97) hx hb dX12_weather_50 (by decide) ?_
            refine lv_bipush (v := 105) hx hb dX12_weather_52 (by decide) ?_
            obtain ⟨o8, hg9, hf⟩ := bd_some hf
            refine k_SI (As := [.int ((a_text (v2 : Int32).toNatClampNeg)), .int 97, .int 105]) C K_RX12_97 (Nat.le_of_ble_eq_true rfl) (Nat.le_of_ble_eq_true rfl) (kX12_in l E ((a_text (v2 : Int32).toNatClampNeg)) 97 105 o8 hg9) [] rfl rfl rfl  hP hD hS hA hl.1 (Nat.le_of_ble_eq_true rfl) rfl dX12_weather_54 (fun H locs hP hD hS => ?_)
            have hP : va_P E.1 classes (WX12_weather E q0 q0_now q0_hold q0_below q0_hay q0_weather q0_text q0_row q0_comes q0_rule q0_owedBy q0_undos q0_aside q0_acts q0_ring q0_bestRing q0_nets q0_worked q0_then q0_plan q0_bestPlan q0_tried q0_tracks q0_kept q0_isKept q0_keptCame i_houses i_weatherMany i_typed i_rowMany i_thrown x_read i_length i_top i_at i_wrong i_ruleSize i_isAsked i_askedInches i_askedPath i_askedDay i_askedRoof i_askedBelow i_askedLoose i_slidesMany i_owedNow i_slidInto i_undoMany i_bestLength i_setOff i_letLie i_trackMany i_came a_text a_weather) H := hP
            have hD : va_D A (WX12_weather E q0 q0_now q0_hold q0_below q0_hay q0_weather q0_text q0_row q0_comes q0_rule q0_owedBy q0_undos q0_aside q0_acts q0_ring q0_bestRing q0_nets q0_worked q0_then q0_plan q0_bestPlan q0_tried q0_tracks q0_kept q0_isKept q0_keptCame i_houses i_weatherMany i_typed i_rowMany i_thrown x_read i_length i_top i_at i_wrong i_ruleSize i_isAsked i_askedInches i_askedPath i_askedDay i_askedRoof i_askedBelow i_askedLoose i_slidesMany i_owedNow i_slidInto i_undoMany i_bestLength i_setOff i_letLie i_trackMany i_came a_text a_weather) := hD
            refine lv_if_ne (tgt := 64) hx hb dX12_weather_57 (by decide) (fun c10 => ?_) (fun c10 => ?_)
            · rw [if_neg c10] at hf
              refine lv_iinc (v := (v2 + 1)) (lv' := [(2, .int ((v2 + 1))), (0, .ref q0), (1, .int v1)]) hx hb dX12_weather_64 hl (k := 2) rfl rfl (by decide) rfl (fun ls hl => ?_)
              refine lv_goto (tgt := 17) hx hb dX12_weather_67 (by decide) ?_
              exact ih ((v2 + 1)) _ hf hE hR _ _ _ (lv_sub hl [1, 2, 0] rfl) hP hD hS
            · rw [if_pos c10] at hf
              refine lv_iconst (v := (-1)) hx hb dX12_weather_60 (by decide) ?_
              refine lv_iload_n hx hb dX12_weather_61 rfl (lv_at hl 2 rfl) ?_
              refine lv_isub hx hb dX12_weather_62 ?_
              have hf := Option.some.inj hf
              subst hf
              have hj0 := hR _ rfl
              obtain ⟨ha0, hj1⟩ := Prod.mk.inj hj0
              obtain ⟨ha1, hj2⟩ := Prod.mk.inj hj1
              obtain ⟨ha2, hj3⟩ := Prod.mk.inj hj2
              obtain ⟨ha3, hj4⟩ := Prod.mk.inj hj3
              subst ha0
              subst ha1
              subst ha2
              subst ha3
              subst hj4
              exact hret _ _ _ _ dX12_weather_63 rfl hP hD hS
  have L72 : ∀ (v1 : Int32) (i_weatherMany : Int32) (i_typed : Int32) (i_thrown : Int32), ∀ (n : Nat) (v2 : Int32) (a_weather : Nat → Int32) (o : (Nat → Int32)), fX12_weather_L72 a_text v1 n v2 a_weather = some o → (GO p l e 1 s m args below meth c Q E A 3 129 [] [(0, .ref q0), (1, .int v1)] (WX12_weather E q0 q0_now q0_hold q0_below q0_hay q0_weather q0_text q0_row q0_comes q0_rule q0_owedBy q0_undos q0_aside q0_acts q0_ring q0_bestRing q0_nets q0_worked q0_then q0_plan q0_bestPlan q0_tried q0_tracks q0_kept q0_isKept q0_keptCame i_houses i_weatherMany i_typed i_rowMany i_thrown x_read i_length i_top i_at i_wrong i_ruleSize i_isAsked i_askedInches i_askedPath i_askedDay i_askedRoof i_askedBelow i_askedLoose i_slidesMany i_owedNow i_slidInto i_undoMany i_bestLength i_setOff i_letLie i_trackMany i_came a_text o)) → GO p l e 1 s m args below meth c Q E A 3 72 [] [(0, .ref q0), (1, .int v1), (2, .int v2)] (WX12_weather E q0 q0_now q0_hold q0_below q0_hay q0_weather q0_text q0_row q0_comes q0_rule q0_owedBy q0_undos q0_aside q0_acts q0_ring q0_bestRing q0_nets q0_worked q0_then q0_plan q0_bestPlan q0_tried q0_tracks q0_kept q0_isKept q0_keptCame i_houses i_weatherMany i_typed i_rowMany i_thrown x_read i_length i_top i_at i_wrong i_ruleSize i_isAsked i_askedInches i_askedPath i_askedDay i_askedRoof i_askedBelow i_askedLoose i_slidesMany i_owedNow i_slidInto i_undoMany i_bestLength i_setOff i_letLie i_trackMany i_came a_text a_weather) := by
    intro v1 i_weatherMany i_typed i_thrown
    intro n
    induction n with
    | zero =>
      intro v2 a_weather o hf
      have hf : none = some o := hf
      cases hf
    | succ n ih =>
      intro v2 a_weather o hf hE
      intro H locs ls hl hP hD hS
      rw [fX12_weather_L72] at hf
      refine lv_iload_n hx hb dX12_weather_72 rfl (lv_at hl 2 rfl) ?_
      refine lv_iload_n hx hb dX12_weather_73 rfl (lv_at hl 1 rfl) ?_
      refine lv_icmp_ge (tgt := 129) hx hb dX12_weather_74 (by decide) (fun c14 => ?_) (fun c14 => ?_)
      · rw [if_pos c14] at hf
        have hf := Option.some.inj hf
        subst hf
        exact hE _ _ _ (lv_sub hl [0, 1] rfl) hP hD hS
      · rw [if_neg c14] at hf
        refine lv_aload_n hx hb dX12_weather_77 rfl (lv_at hl 0 rfl) ?_
        refine gf_RX12_22 C hP 0 rfl rfl dX12_weather_78 ?_
        refine lv_iload_n hx hb dX12_weather_81 rfl (lv_at hl 2 rfl) ?_
        refine lv_aload_n hx hb dX12_weather_82 rfl (lv_at hl 0 rfl) ?_
        refine gf_RX12_25 C hP 0 rfl rfl dX12_weather_83 ?_
        refine lv_iload_n hx hb dX12_weather_86 rfl (lv_at hl 2 rfl) ?_
        obtain ⟨g15, hf⟩ := gd_some hf
        refine va_bald hx hb C.2.2.2.2.2.1 hP 1 1 rfl rfl (vin_in g15) dX12_weather_87 ?_
        refine lv_bipush (v := 48) hx hb dX12_weather_88 (by decide) ?_
        refine lv_bipush (v := 57) hx hb dX12_weather_90 (by decide) ?_
        obtain ⟨o16, hg17, hf⟩ := bd_some hf
        refine k_SI (As := [.int ((a_text (v2 : Int32).toNatClampNeg)), .int 48, .int 57]) C K_RX12_97 (Nat.le_of_ble_eq_true rfl) (Nat.le_of_ble_eq_true rfl) (kX12_in l E ((a_text (v2 : Int32).toNatClampNeg)) 48 57 o16 hg17) [] rfl rfl rfl  hP hD hS hA hl.1 (Nat.le_of_ble_eq_true rfl) rfl dX12_weather_92 (fun H locs hP hD hS => ?_)
        have hP : va_P E.1 classes (WX12_weather E q0 q0_now q0_hold q0_below q0_hay q0_weather q0_text q0_row q0_comes q0_rule q0_owedBy q0_undos q0_aside q0_acts q0_ring q0_bestRing q0_nets q0_worked q0_then q0_plan q0_bestPlan q0_tried q0_tracks q0_kept q0_isKept q0_keptCame i_houses i_weatherMany i_typed i_rowMany i_thrown x_read i_length i_top i_at i_wrong i_ruleSize i_isAsked i_askedInches i_askedPath i_askedDay i_askedRoof i_askedBelow i_askedLoose i_slidesMany i_owedNow i_slidInto i_undoMany i_bestLength i_setOff i_letLie i_trackMany i_came a_text a_weather) H := hP
        have hD : va_D A (WX12_weather E q0 q0_now q0_hold q0_below q0_hay q0_weather q0_text q0_row q0_comes q0_rule q0_owedBy q0_undos q0_aside q0_acts q0_ring q0_bestRing q0_nets q0_worked q0_then q0_plan q0_bestPlan q0_tried q0_tracks q0_kept q0_isKept q0_keptCame i_houses i_weatherMany i_typed i_rowMany i_thrown x_read i_length i_top i_at i_wrong i_ruleSize i_isAsked i_askedInches i_askedPath i_askedDay i_askedRoof i_askedBelow i_askedLoose i_slidesMany i_owedNow i_slidInto i_undoMany i_bestLength i_setOff i_letLie i_trackMany i_came a_text a_weather) := hD
        refine lv_if_eq (tgt := 110) hx hb dX12_weather_95 (by decide) (fun c18 => ?_) (fun c18 => ?_)
        · rw [if_pos c18] at hf
          refine lv_aload_n hx hb dX12_weather_110 rfl (lv_at hl 0 rfl) ?_
          refine gf_RX12_25 C hP 0 rfl rfl dX12_weather_111 ?_
          refine lv_iload_n hx hb dX12_weather_114 rfl (lv_at hl 2 rfl) ?_
          obtain ⟨g19, hf⟩ := gd_some hf
          refine va_bald hx hb C.2.2.2.2.2.1 hP 1 1 rfl rfl (vin_in g19) dX12_weather_115 ?_
          refine lv_bipush (v := 97) hx hb dX12_weather_116 (by decide) ?_
          refine lv_isub hx hb dX12_weather_118 ?_
          refine lv_iconst (v := 1) hx hb dX12_weather_119 (by decide) ?_
          refine lv_iadd hx hb dX12_weather_120 ?_
          refine lv_ineg hx hb dX12_weather_121 ?_
          obtain ⟨g20, hf⟩ := gd_some hf
          refine va_iast hx hb C.2.2.2.2.2.1 hP hD hS 2 0 rfl rfl (vin_in g20) dX12_weather_122 (fun H locs hP hD hS => ?_)
          have hP : va_P E.1 classes (WX12_weather E q0 q0_now q0_hold q0_below q0_hay q0_weather q0_text q0_row q0_comes q0_rule q0_owedBy q0_undos q0_aside q0_acts q0_ring q0_bestRing q0_nets q0_worked q0_then q0_plan q0_bestPlan q0_tried q0_tracks q0_kept q0_isKept q0_keptCame i_houses i_weatherMany i_typed i_rowMany i_thrown x_read i_length i_top i_at i_wrong i_ruleSize i_isAsked i_askedInches i_askedPath i_askedDay i_askedRoof i_askedBelow i_askedLoose i_slidesMany i_owedNow i_slidInto i_undoMany i_bestLength i_setOff i_letLie i_trackMany i_came a_text ((upd a_weather (v2 : Int32).toNatClampNeg ((-((((((a_text (v2 : Int32).toNatClampNeg)) - 97)) + 1))))))) H := hP
          have hD : va_D A (WX12_weather E q0 q0_now q0_hold q0_below q0_hay q0_weather q0_text q0_row q0_comes q0_rule q0_owedBy q0_undos q0_aside q0_acts q0_ring q0_bestRing q0_nets q0_worked q0_then q0_plan q0_bestPlan q0_tried q0_tracks q0_kept q0_isKept q0_keptCame i_houses i_weatherMany i_typed i_rowMany i_thrown x_read i_length i_top i_at i_wrong i_ruleSize i_isAsked i_askedInches i_askedPath i_askedDay i_askedRoof i_askedBelow i_askedLoose i_slidesMany i_owedNow i_slidInto i_undoMany i_bestLength i_setOff i_letLie i_trackMany i_came a_text ((upd a_weather (v2 : Int32).toNatClampNeg ((-((((((a_text (v2 : Int32).toNatClampNeg)) - 97)) + 1))))))) := hD
          refine lv_iinc (v := (v2 + 1)) (lv' := [(2, .int ((v2 + 1))), (0, .ref q0), (1, .int v1)]) hx hb dX12_weather_123 hl (k := 2) rfl rfl (by decide) rfl (fun ls hl => ?_)
          refine lv_goto (tgt := 72) hx hb dX12_weather_126 (by decide) ?_
          exact ih ((v2 + 1)) ((upd a_weather (v2 : Int32).toNatClampNeg ((-((((((a_text (v2 : Int32).toNatClampNeg)) - 97)) + 1)))))) _ hf hE _ _ _ (lv_sub hl [1, 2, 0] rfl) hP hD hS
        · rw [if_neg c18] at hf
          refine lv_aload_n hx hb dX12_weather_98 rfl (lv_at hl 0 rfl) ?_
          refine gf_RX12_25 C hP 0 rfl rfl dX12_weather_99 ?_
          refine lv_iload_n hx hb dX12_weather_102 rfl (lv_at hl 2 rfl) ?_
          obtain ⟨g21, hf⟩ := gd_some hf
          refine va_bald hx hb C.2.2.2.2.2.1 hP 1 1 rfl rfl (vin_in g21) dX12_weather_103 ?_
          refine lv_bipush (v := 48) hx hb dX12_weather_104 (by decide) ?_
          refine lv_isub hx hb dX12_weather_106 ?_
          refine lv_goto (tgt := 122) hx hb dX12_weather_107 (by decide) ?_
          obtain ⟨g22, hf⟩ := gd_some hf
          refine va_iast hx hb C.2.2.2.2.2.1 hP hD hS 2 0 rfl rfl (vin_in g22) dX12_weather_122 (fun H locs hP hD hS => ?_)
          have hP : va_P E.1 classes (WX12_weather E q0 q0_now q0_hold q0_below q0_hay q0_weather q0_text q0_row q0_comes q0_rule q0_owedBy q0_undos q0_aside q0_acts q0_ring q0_bestRing q0_nets q0_worked q0_then q0_plan q0_bestPlan q0_tried q0_tracks q0_kept q0_isKept q0_keptCame i_houses i_weatherMany i_typed i_rowMany i_thrown x_read i_length i_top i_at i_wrong i_ruleSize i_isAsked i_askedInches i_askedPath i_askedDay i_askedRoof i_askedBelow i_askedLoose i_slidesMany i_owedNow i_slidInto i_undoMany i_bestLength i_setOff i_letLie i_trackMany i_came a_text ((upd a_weather (v2 : Int32).toNatClampNeg ((((a_text (v2 : Int32).toNatClampNeg)) - 48))))) H := hP
          have hD : va_D A (WX12_weather E q0 q0_now q0_hold q0_below q0_hay q0_weather q0_text q0_row q0_comes q0_rule q0_owedBy q0_undos q0_aside q0_acts q0_ring q0_bestRing q0_nets q0_worked q0_then q0_plan q0_bestPlan q0_tried q0_tracks q0_kept q0_isKept q0_keptCame i_houses i_weatherMany i_typed i_rowMany i_thrown x_read i_length i_top i_at i_wrong i_ruleSize i_isAsked i_askedInches i_askedPath i_askedDay i_askedRoof i_askedBelow i_askedLoose i_slidesMany i_owedNow i_slidInto i_undoMany i_bestLength i_setOff i_letLie i_trackMany i_came a_text ((upd a_weather (v2 : Int32).toNatClampNeg ((((a_text (v2 : Int32).toNatClampNeg)) - 48))))) := hD
          refine lv_iinc (v := (v2 + 1)) (lv' := [(2, .int ((v2 + 1))), (0, .ref q0), (1, .int v1)]) hx hb dX12_weather_123 hl (k := 2) rfl rfl (by decide) rfl (fun ls hl => ?_)
          refine lv_goto (tgt := 72) hx hb dX12_weather_126 (by decide) ?_
          exact ih ((v2 + 1)) ((upd a_weather (v2 : Int32).toNatClampNeg ((((a_text (v2 : Int32).toNatClampNeg)) - 48)))) _ hf hE _ _ _ (lv_sub hl [1, 2, 0] rfl) hP hD hS
  intro H locs ls hl hP hD hS
  have hl : lv_has ls 3 [(0, .ref q0)] := hl
  unfold fX12_weather at hf
  refine lv_aload_n hx hb dX12_weather_0 rfl (lv_at hl 0 rfl) ?_
  refine lv_iconst (v := 0) hx hb dX12_weather_1 (by decide) ?_
  refine pf_RX12_87 C hP hD hS 0 rfl (Nat.le_of_ble_eq_true rfl) dX12_weather_2 (fun H locs hP hD hS => ?_)
  have hP : va_P E.1 classes (WX12_weather E q0 q0_now q0_hold q0_below q0_hay q0_weather q0_text q0_row q0_comes q0_rule q0_owedBy q0_undos q0_aside q0_acts q0_ring q0_bestRing q0_nets q0_worked q0_then q0_plan q0_bestPlan q0_tried q0_tracks q0_kept q0_isKept q0_keptCame i_houses i_weatherMany i_typed i_rowMany 0 x_read i_length i_top i_at i_wrong i_ruleSize i_isAsked i_askedInches i_askedPath i_askedDay i_askedRoof i_askedBelow i_askedLoose i_slidesMany i_owedNow i_slidInto i_undoMany i_bestLength i_setOff i_letLie i_trackMany i_came a_text a_weather) H := hP
  have hD : va_D A (WX12_weather E q0 q0_now q0_hold q0_below q0_hay q0_weather q0_text q0_row q0_comes q0_rule q0_owedBy q0_undos q0_aside q0_acts q0_ring q0_bestRing q0_nets q0_worked q0_then q0_plan q0_bestPlan q0_tried q0_tracks q0_kept q0_isKept q0_keptCame i_houses i_weatherMany i_typed i_rowMany 0 x_read i_length i_top i_at i_wrong i_ruleSize i_isAsked i_askedInches i_askedPath i_askedDay i_askedRoof i_askedBelow i_askedLoose i_slidesMany i_owedNow i_slidInto i_undoMany i_bestLength i_setOff i_letLie i_trackMany i_came a_text a_weather) := hD
  refine lv_aload_n hx hb dX12_weather_5 rfl (lv_at hl 0 rfl) ?_
  refine gf_RX12_105 C hP 0 rfl rfl dX12_weather_6 ?_
  refine lv_istore_n (lv' := [(1, .int i_typed), (0, .ref q0)]) hx hb dX12_weather_9 rfl hl (by decide) rfl (fun ls hl => ?_)
  refine lv_aload_n hx hb dX12_weather_10 rfl (lv_at hl 1 rfl) ?_
  refine lv_iconst (v := 0) hx hb dX12_weather_11 (by decide) ?_
  refine pf_RX12_105 C hP hD hS 0 rfl (Nat.le_of_ble_eq_true rfl) dX12_weather_12 (fun H locs hP hD hS => ?_)
  have hP : va_P E.1 classes (WX12_weather E q0 q0_now q0_hold q0_below q0_hay q0_weather q0_text q0_row q0_comes q0_rule q0_owedBy q0_undos q0_aside q0_acts q0_ring q0_bestRing q0_nets q0_worked q0_then q0_plan q0_bestPlan q0_tried q0_tracks q0_kept q0_isKept q0_keptCame i_houses i_weatherMany 0 i_rowMany 0 x_read i_length i_top i_at i_wrong i_ruleSize i_isAsked i_askedInches i_askedPath i_askedDay i_askedRoof i_askedBelow i_askedLoose i_slidesMany i_owedNow i_slidInto i_undoMany i_bestLength i_setOff i_letLie i_trackMany i_came a_text a_weather) H := hP
  have hD : va_D A (WX12_weather E q0 q0_now q0_hold q0_below q0_hay q0_weather q0_text q0_row q0_comes q0_rule q0_owedBy q0_undos q0_aside q0_acts q0_ring q0_bestRing q0_nets q0_worked q0_then q0_plan q0_bestPlan q0_tried q0_tracks q0_kept q0_isKept q0_keptCame i_houses i_weatherMany 0 i_rowMany 0 x_read i_length i_top i_at i_wrong i_ruleSize i_isAsked i_askedInches i_askedPath i_askedDay i_askedRoof i_askedBelow i_askedLoose i_slidesMany i_owedNow i_slidInto i_undoMany i_bestLength i_setOff i_letLie i_trackMany i_came a_text a_weather) := hD
  refine lv_iconst (v := 0) hx hb dX12_weather_15 (by decide) ?_
  refine lv_istore_n (lv' := [(2, .int 0), (1, .int i_typed), (0, .ref q0)]) hx hb dX12_weather_16 rfl hl (by decide) rfl (fun ls hl => ?_)
  obtain ⟨o11, hg12, hf⟩ := bd_some hf
  refine L17 i_typed i_weatherMany 0 0 a_weather FU 0 o11 hg12 ?_ ?_ _ _ _ (lv_sub hl [2, 1, 0] rfl) hP hD hS
  · intro x13 hxx
    rw [hxx, Sum.elim_inl] at hf
    intro H locs ls hl hP hD hS
    refine lv_iconst (v := 0) hx hb dX12_weather_70 (by decide) ?_
    refine lv_istore_n (lv' := [(2, .int 0), (0, .ref q0), (1, .int i_typed)]) hx hb dX12_weather_71 rfl hl (by decide) rfl (fun ls hl => ?_)
    obtain ⟨o23, hg24, hf⟩ := bd_some hf
    refine L72 i_typed i_weatherMany 0 0 FU 0 a_weather o23 hg24 ?_ _ _ _ (lv_sub hl [1, 2, 0] rfl) hP hD hS
    intro H locs ls hl hP hD hS
    refine lv_aload_n hx hb dX12_weather_129 rfl (lv_at hl 0 rfl) ?_
    refine lv_iload_n hx hb dX12_weather_130 rfl (lv_at hl 1 rfl) ?_
    refine pf_RX12_157 C hP hD hS 0 rfl (Nat.le_of_ble_eq_true rfl) dX12_weather_131 (fun H locs hP hD hS => ?_)
    have hP : va_P E.1 classes (WX12_weather E q0 q0_now q0_hold q0_below q0_hay q0_weather q0_text q0_row q0_comes q0_rule q0_owedBy q0_undos q0_aside q0_acts q0_ring q0_bestRing q0_nets q0_worked q0_then q0_plan q0_bestPlan q0_tried q0_tracks q0_kept q0_isKept q0_keptCame i_houses i_typed 0 i_rowMany 0 x_read i_length i_top i_at i_wrong i_ruleSize i_isAsked i_askedInches i_askedPath i_askedDay i_askedRoof i_askedBelow i_askedLoose i_slidesMany i_owedNow i_slidInto i_undoMany i_bestLength i_setOff i_letLie i_trackMany i_came a_text o23) H := hP
    have hD : va_D A (WX12_weather E q0 q0_now q0_hold q0_below q0_hay q0_weather q0_text q0_row q0_comes q0_rule q0_owedBy q0_undos q0_aside q0_acts q0_ring q0_bestRing q0_nets q0_worked q0_then q0_plan q0_bestPlan q0_tried q0_tracks q0_kept q0_isKept q0_keptCame i_houses i_typed 0 i_rowMany 0 x_read i_length i_top i_at i_wrong i_ruleSize i_isAsked i_askedInches i_askedPath i_askedDay i_askedRoof i_askedBelow i_askedLoose i_slidesMany i_owedNow i_slidInto i_undoMany i_bestLength i_setOff i_letLie i_trackMany i_came a_text o23) := hD
    refine lv_iload_n hx hb dX12_weather_134 rfl (lv_at hl 1 rfl) ?_
    have hj0 := Option.some.inj hf
    obtain ⟨ha0, hj1⟩ := Prod.mk.inj hj0
    obtain ⟨ha1, hj2⟩ := Prod.mk.inj hj1
    obtain ⟨ha2, hj3⟩ := Prod.mk.inj hj2
    obtain ⟨ha3, hj4⟩ := Prod.mk.inj hj3
    subst ha0
    subst ha1
    subst ha2
    subst ha3
    subst hj4
    exact hret _ _ _ _ dX12_weather_135 rfl hP hD hS
  · intro x hxx
    rw [hxx, Sum.elim_inr] at hf
    exact Option.some.inj hf
theorem q1539 : Cond.constant RX12 160 (1103515245 : Int32) ∈ Tg := Tg_mem 1539 (by decide +kernel) (by decide +kernel)
theorem dX12_winter_0 : decode cX12_winter 0 = .ok (.aload_n 0, 1) := by decide +kernel
theorem dX12_winter_1 : decode cX12_winter 1 = .ok (.iconst 0, 1) := by decide +kernel
theorem dX12_winter_2 : decode cX12_winter 2 = .ok (.putfield 87, 3) := by decide +kernel
theorem dX12_winter_5 : decode cX12_winter 5 = .ok (.iload_n 2, 1) := by decide +kernel
theorem dX12_winter_6 : decode cX12_winter 6 = .ok (.iconst 1, 1) := by decide +kernel
theorem dX12_winter_7 : decode cX12_winter 7 = .ok (.bipush 40, 2) := by decide +kernel
theorem dX12_winter_9 : decode cX12_winter 9 = .ok (.invokestatic 97, 3) := by decide +kernel
theorem dX12_winter_12 : decode cX12_winter 12 = .ok (.ifCond .ne 5, 3) := by decide +kernel
theorem dX12_winter_15 : decode cX12_winter 15 = .ok (.iconst (-1), 1) := by decide +kernel
theorem dX12_winter_16 : decode cX12_winter 16 = .ok (.ireturn, 1) := by decide +kernel
theorem dX12_winter_17 : decode cX12_winter 17 = .ok (.iload_n 1, 1) := by decide +kernel
theorem dX12_winter_18 : decode cX12_winter 18 = .ok (.istore_n 3, 1) := by decide +kernel
theorem dX12_winter_19 : decode cX12_winter 19 = .ok (.iconst 0, 1) := by decide +kernel
theorem dX12_winter_20 : decode cX12_winter 20 = .ok (.istore 4, 2) := by decide +kernel
theorem dX12_winter_22 : decode cX12_winter 22 = .ok (.iconst 0, 1) := by decide +kernel
theorem dX12_winter_23 : decode cX12_winter 23 = .ok (.istore 5, 2) := by decide +kernel
theorem dX12_winter_25 : decode cX12_winter 25 = .ok (.iload 5, 2) := by decide +kernel
theorem dX12_winter_27 : decode cX12_winter 27 = .ok (.iload_n 2, 1) := by decide +kernel
theorem dX12_winter_28 : decode cX12_winter 28 = .ok (.if_icmp .ge 71, 3) := by decide +kernel
theorem dX12_winter_31 : decode cX12_winter 31 = .ok (.iload_n 3, 1) := by decide +kernel
theorem dX12_winter_32 : decode cX12_winter 32 = .ok (.ldc 160, 2) := by decide +kernel
theorem dX12_winter_34 : decode cX12_winter 34 = .ok (.imul, 1) := by decide +kernel
theorem dX12_winter_35 : decode cX12_winter 35 = .ok (.sipush 12345, 3) := by decide +kernel
theorem dX12_winter_38 : decode cX12_winter 38 = .ok (.iadd, 1) := by decide +kernel
theorem dX12_winter_39 : decode cX12_winter 39 = .ok (.istore_n 3, 1) := by decide +kernel
theorem dX12_winter_40 : decode cX12_winter 40 = .ok (.iload_n 3, 1) := by decide +kernel
theorem dX12_winter_41 : decode cX12_winter 41 = .ok (.bipush 16, 2) := by decide +kernel
theorem dX12_winter_43 : decode cX12_winter 43 = .ok (.iushr, 1) := by decide +kernel
theorem dX12_winter_44 : decode cX12_winter 44 = .ok (.bipush 16, 2) := by decide +kernel
theorem dX12_winter_46 : decode cX12_winter 46 = .ok (.irem, 1) := by decide +kernel
theorem dX12_winter_47 : decode cX12_winter 47 = .ok (.istore 6, 2) := by decide +kernel
theorem dX12_winter_49 : decode cX12_winter 49 = .ok (.aload_n 0, 1) := by decide +kernel
theorem dX12_winter_50 : decode cX12_winter 50 = .ok (.getfield 22, 3) := by decide +kernel
theorem dX12_winter_53 : decode cX12_winter 53 = .ok (.iload 5, 2) := by decide +kernel
theorem dX12_winter_55 : decode cX12_winter 55 = .ok (.iload 6, 2) := by decide +kernel
theorem dX12_winter_57 : decode cX12_winter 57 = .ok (.bipush 10, 2) := by decide +kernel
theorem dX12_winter_59 : decode cX12_winter 59 = .ok (.if_icmp .ge 8, 3) := by decide +kernel
theorem dX12_winter_62 : decode cX12_winter 62 = .ok (.iload 6, 2) := by decide +kernel
theorem dX12_winter_64 : decode cX12_winter 64 = .ok (.goto 8, 3) := by decide +kernel
theorem dX12_winter_67 : decode cX12_winter 67 = .ok (.bipush 9, 2) := by decide +kernel
theorem dX12_winter_69 : decode cX12_winter 69 = .ok (.iload 6, 2) := by decide +kernel
theorem dX12_winter_71 : decode cX12_winter 71 = .ok (.isub, 1) := by decide +kernel
theorem dX12_winter_72 : decode cX12_winter 72 = .ok (.iastore, 1) := by decide +kernel
theorem dX12_winter_73 : decode cX12_winter 73 = .ok (.iload 4, 2) := by decide +kernel
theorem dX12_winter_75 : decode cX12_winter 75 = .ok (.aload_n 0, 1) := by decide +kernel
theorem dX12_winter_76 : decode cX12_winter 76 = .ok (.getfield 22, 3) := by decide +kernel
theorem dX12_winter_79 : decode cX12_winter 79 = .ok (.iload 5, 2) := by decide +kernel
theorem dX12_winter_81 : decode cX12_winter 81 = .ok (.iaload, 1) := by decide +kernel
theorem dX12_winter_82 : decode cX12_winter 82 = .ok (.ifCond .le 7, 3) := by decide +kernel
theorem dX12_winter_85 : decode cX12_winter 85 = .ok (.iconst 1, 1) := by decide +kernel
theorem dX12_winter_86 : decode cX12_winter 86 = .ok (.goto 4, 3) := by decide +kernel
theorem dX12_winter_89 : decode cX12_winter 89 = .ok (.iconst 0, 1) := by decide +kernel
theorem dX12_winter_90 : decode cX12_winter 90 = .ok (.iadd, 1) := by decide +kernel
theorem dX12_winter_91 : decode cX12_winter 91 = .ok (.istore 4, 2) := by decide +kernel
theorem dX12_winter_93 : decode cX12_winter 93 = .ok (.iinc 5 1, 3) := by decide +kernel
theorem dX12_winter_96 : decode cX12_winter 96 = .ok (.goto (-71), 3) := by decide +kernel
theorem dX12_winter_99 : decode cX12_winter 99 = .ok (.aload_n 0, 1) := by decide +kernel
theorem dX12_winter_100 : decode cX12_winter 100 = .ok (.iload_n 2, 1) := by decide +kernel
theorem dX12_winter_101 : decode cX12_winter 101 = .ok (.putfield 157, 3) := by decide +kernel
theorem dX12_winter_104 : decode cX12_winter 104 = .ok (.iload 4, 2) := by decide +kernel
theorem dX12_winter_106 : decode cX12_winter 106 = .ok (.ireturn, 1) := by decide +kernel
def WX12_winter (E : ENV) (q0 : Nat) (q0_now : Nat) (q0_hold : Nat) (q0_below : Nat) (q0_hay : Nat) (q0_weather : Nat) (q0_text : Nat) (q0_row : Nat) (q0_comes : Nat) (q0_rule : Nat) (q0_owedBy : Nat) (q0_undos : Nat) (q0_aside : Nat) (q0_acts : Nat) (q0_ring : Nat) (q0_bestRing : Nat) (q0_nets : Nat) (q0_worked : Nat) (q0_then : Nat) (q0_plan : Nat) (q0_bestPlan : Nat) (q0_tried : Nat) (q0_tracks : Nat) (q0_kept : Nat) (q0_isKept : Nat) (q0_keptCame : Nat) (i_houses : Int32) (i_weatherMany : Int32) (i_typed : Int32) (i_rowMany : Int32) (i_thrown : Int32) (x_read : Value) (i_length : Int32) (i_top : Int32) (i_at : Int32) (i_wrong : Int32) (i_ruleSize : Int32) (i_isAsked : Int32) (i_askedInches : Int32) (i_askedPath : Int32) (i_askedDay : Int32) (i_askedRoof : Int32) (i_askedBelow : Int32) (i_askedLoose : Int32) (i_slidesMany : Int32) (i_owedNow : Int32) (i_slidInto : Int32) (i_undoMany : Int32) (i_bestLength : Int32) (i_setOff : Int32) (i_letLie : Int32) (i_trackMany : Int32) (i_came : Int32) (a_weather : Nat → Int32) : va_W := [(q0, .inr (12, [.ref q0_now, .int i_houses, .ref q0_hold, .ref q0_below, .ref q0_hay, .ref q0_weather, .int i_weatherMany, .ref q0_text, .int i_typed, .ref q0_row, .int i_rowMany, .int i_thrown, x_read, .int i_length, .int i_top, .int i_at, .int i_wrong, .ref q0_comes, .ref q0_rule, .int i_ruleSize, .int i_isAsked, .int i_askedInches, .int i_askedPath, .int i_askedDay, .int i_askedRoof, .int i_askedBelow, .int i_askedLoose, .int i_slidesMany, .int i_owedNow, .ref q0_owedBy, .int i_slidInto, .ref q0_undos, .int i_undoMany, .ref q0_aside, .ref q0_acts, .ref q0_ring, .ref q0_bestRing, .int i_bestLength, .ref q0_nets, .ref q0_worked, .ref q0_then, .ref q0_plan, .ref q0_bestPlan, .ref q0_tried, .int i_setOff, .int i_letLie, .ref q0_tracks, .int i_trackMany, .int i_came, .ref q0_kept, .ref q0_isKept, .ref q0_keptCame])), (q0_weather, .inl (E.2.1, 40, .inl a_weather))]
set_option maxHeartbeats 4000000 in
set_option maxRecDepth 20000 in
theorem kX12_winter (l : Launch) (E : ENV) (q0 : Nat) (q0_now : Nat) (q0_hold : Nat) (q0_below : Nat) (q0_hay : Nat) (q0_weather : Nat) (q0_text : Nat) (q0_row : Nat) (q0_comes : Nat) (q0_rule : Nat) (q0_owedBy : Nat) (q0_undos : Nat) (q0_aside : Nat) (q0_acts : Nat) (q0_ring : Nat) (q0_bestRing : Nat) (q0_nets : Nat) (q0_worked : Nat) (q0_then : Nat) (q0_plan : Nat) (q0_bestPlan : Nat) (q0_tried : Nat) (q0_tracks : Nat) (q0_kept : Nat) (q0_isKept : Nat) (q0_keptCame : Nat) (i_houses : Int32) (i_weatherMany : Int32) (i_typed : Int32) (i_rowMany : Int32) (i_thrown : Int32) (x_read : Value) (i_length : Int32) (i_top : Int32) (i_at : Int32) (i_wrong : Int32) (i_ruleSize : Int32) (i_isAsked : Int32) (i_askedInches : Int32) (i_askedPath : Int32) (i_askedDay : Int32) (i_askedRoof : Int32) (i_askedBelow : Int32) (i_askedLoose : Int32) (i_slidesMany : Int32) (i_owedNow : Int32) (i_slidInto : Int32) (i_undoMany : Int32) (i_bestLength : Int32) (i_setOff : Int32) (i_letLie : Int32) (i_trackMany : Int32) (i_came : Int32) (a_weather : Nat → Int32) (p1 : Int32) (p2 : Int32) (r9 : Int32) (i_weatherMany9 : Int32) (i_thrown9 : Int32) (a_weather9 : Nat → Int32) (hf : fX12_winter i_weatherMany i_thrown a_weather p1 p2 = some (r9, i_weatherMany9, i_thrown9, a_weather9)) : CI l E yX12_winter cX12_winter 7 (some .int) 1 [.ref q0, .int p1, .int p2] (WX12_winter E q0 q0_now q0_hold q0_below q0_hay q0_weather q0_text q0_row q0_comes q0_rule q0_owedBy q0_undos q0_aside q0_acts q0_ring q0_bestRing q0_nets q0_worked q0_then q0_plan q0_bestPlan q0_tried q0_tracks q0_kept q0_isKept q0_keptCame i_houses i_weatherMany i_typed i_rowMany i_thrown x_read i_length i_top i_at i_wrong i_ruleSize i_isAsked i_askedInches i_askedPath i_askedDay i_askedRoof i_askedBelow i_askedLoose i_slidesMany i_owedNow i_slidInto i_undoMany i_bestLength i_setOff i_letLie i_trackMany i_came a_weather) (WX12_winter E q0 q0_now q0_hold q0_below q0_hay q0_weather q0_text q0_row q0_comes q0_rule q0_owedBy q0_undos q0_aside q0_acts q0_ring q0_bestRing q0_nets q0_worked q0_then q0_plan q0_bestPlan q0_tried q0_tracks q0_kept q0_isKept q0_keptCame i_houses i_weatherMany9 i_typed i_rowMany i_thrown9 x_read i_length i_top i_at i_wrong i_ruleSize i_isAsked i_askedInches i_askedPath i_askedDay i_askedRoof i_askedBelow i_askedLoose i_slidesMany i_owedNow i_slidInto i_undoMany i_bestLength i_setOff i_letLie i_trackMany i_came a_weather9) r9 := by
  refine begI (by decide +kernel) (Nat.le_of_ble_eq_true rfl) ?_
  intro p e s m args below meth c A Q C hA hret
  have hx := C.1
  have hb := C.2.1
  have L25 : ∀ (i_weatherMany : Int32) (i_thrown : Int32), ∀ (n : Nat) (v3 : Int32) (v4 : Int32) (v5 : Int32) (a_weather : Nat → Int32) (o : Int32 × (Nat → Int32)), fX12_winter_L25 p2 n v3 v4 v5 a_weather = some o → (GO p l e 1 s m args below meth c Q E A 7 99 [] [(0, .ref q0), (2, .int p2), (4, .int o.1)] (WX12_winter E q0 q0_now q0_hold q0_below q0_hay q0_weather q0_text q0_row q0_comes q0_rule q0_owedBy q0_undos q0_aside q0_acts q0_ring q0_bestRing q0_nets q0_worked q0_then q0_plan q0_bestPlan q0_tried q0_tracks q0_kept q0_isKept q0_keptCame i_houses i_weatherMany i_typed i_rowMany i_thrown x_read i_length i_top i_at i_wrong i_ruleSize i_isAsked i_askedInches i_askedPath i_askedDay i_askedRoof i_askedBelow i_askedLoose i_slidesMany i_owedNow i_slidInto i_undoMany i_bestLength i_setOff i_letLie i_trackMany i_came o.2)) → GO p l e 1 s m args below meth c Q E A 7 25 [] [(0, .ref q0), (2, .int p2), (3, .int v3), (4, .int v4), (5, .int v5)] (WX12_winter E q0 q0_now q0_hold q0_below q0_hay q0_weather q0_text q0_row q0_comes q0_rule q0_owedBy q0_undos q0_aside q0_acts q0_ring q0_bestRing q0_nets q0_worked q0_then q0_plan q0_bestPlan q0_tried q0_tracks q0_kept q0_isKept q0_keptCame i_houses i_weatherMany i_typed i_rowMany i_thrown x_read i_length i_top i_at i_wrong i_ruleSize i_isAsked i_askedInches i_askedPath i_askedDay i_askedRoof i_askedBelow i_askedLoose i_slidesMany i_owedNow i_slidInto i_undoMany i_bestLength i_setOff i_letLie i_trackMany i_came a_weather) := by
    intro i_weatherMany i_thrown
    intro n
    induction n with
    | zero =>
      intro v3 v4 v5 a_weather o hf
      have hf : none = some o := hf
      cases hf
    | succ n ih =>
      intro v3 v4 v5 a_weather o hf hE
      have J72 : ∀ (v3 : Int32) (v4 : Int32) (v5 : Int32) (s0 : Int32) (s1 : Int32) (a_weather : Nat → Int32), fX12_winter_J72 (fX12_winter_L25 p2 n) v3 v4 v5 s0 s1 a_weather = some o → GO p l e 1 s m args below meth c Q E A 7 72 [.int s0, .int s1, .ref q0_weather] [(0, .ref q0), (2, .int p2), (3, .int v3), (4, .int v4), (5, .int v5)] (WX12_winter E q0 q0_now q0_hold q0_below q0_hay q0_weather q0_text q0_row q0_comes q0_rule q0_owedBy q0_undos q0_aside q0_acts q0_ring q0_bestRing q0_nets q0_worked q0_then q0_plan q0_bestPlan q0_tried q0_tracks q0_kept q0_isKept q0_keptCame i_houses i_weatherMany i_typed i_rowMany i_thrown x_read i_length i_top i_at i_wrong i_ruleSize i_isAsked i_askedInches i_askedPath i_askedDay i_askedRoof i_askedBelow i_askedLoose i_slidesMany i_owedNow i_slidInto i_undoMany i_bestLength i_setOff i_letLie i_trackMany i_came a_weather) := by
        intro v3 v4 v5 s0 s1 a_weather hf H locs ls hl hP hD hS
        unfold fX12_winter_J72 at hf
        obtain ⟨g6, hf⟩ := gd_some hf
        refine va_iast hx hb C.2.2.2.2.2.1 hP hD hS 1 0 rfl rfl (vin_in g6) dX12_winter_72 (fun H locs hP hD hS => ?_)
        have hP : va_P E.1 classes (WX12_winter E q0 q0_now q0_hold q0_below q0_hay q0_weather q0_text q0_row q0_comes q0_rule q0_owedBy q0_undos q0_aside q0_acts q0_ring q0_bestRing q0_nets q0_worked q0_then q0_plan q0_bestPlan q0_tried q0_tracks q0_kept q0_isKept q0_keptCame i_houses i_weatherMany i_typed i_rowMany i_thrown x_read i_length i_top i_at i_wrong i_ruleSize i_isAsked i_askedInches i_askedPath i_askedDay i_askedRoof i_askedBelow i_askedLoose i_slidesMany i_owedNow i_slidInto i_undoMany i_bestLength i_setOff i_letLie i_trackMany i_came ((upd a_weather (s1 : Int32).toNatClampNeg s0))) H := hP
        have hD : va_D A (WX12_winter E q0 q0_now q0_hold q0_below q0_hay q0_weather q0_text q0_row q0_comes q0_rule q0_owedBy q0_undos q0_aside q0_acts q0_ring q0_bestRing q0_nets q0_worked q0_then q0_plan q0_bestPlan q0_tried q0_tracks q0_kept q0_isKept q0_keptCame i_houses i_weatherMany i_typed i_rowMany i_thrown x_read i_length i_top i_at i_wrong i_ruleSize i_isAsked i_askedInches i_askedPath i_askedDay i_askedRoof i_askedBelow i_askedLoose i_slidesMany i_owedNow i_slidInto i_undoMany i_bestLength i_setOff i_letLie i_trackMany i_came ((upd a_weather (s1 : Int32).toNatClampNeg s0))) := hD
        refine lv_iload hx hb dX12_winter_73 (lv_at hl 3 rfl) ?_
        refine lv_aload_n hx hb dX12_winter_75 rfl (lv_at hl 0 rfl) ?_
        refine gf_RX12_22 C hP 0 rfl rfl dX12_winter_76 ?_
        refine lv_iload hx hb dX12_winter_79 (lv_at hl 4 rfl) ?_
        obtain ⟨g7, hf⟩ := gd_some hf
        refine va_iald hx hb C.2.2.2.2.2.1 hP 1 0 rfl rfl (vin_in g7) dX12_winter_81 ?_
        refine lv_if_le (tgt := 89) hx hb dX12_winter_82 (by decide) (fun c8 => ?_) (fun c8 => ?_)
        · rw [if_pos c8] at hf
          refine lv_iconst (v := 0) hx hb dX12_winter_89 (by decide) ?_
          refine lv_iadd hx hb dX12_winter_90 ?_
          refine lv_istore (lv' := [(4, .int ((v4 + 0))), (0, .ref q0), (2, .int p2), (3, .int v3), (5, .int v5)]) hx hb dX12_winter_91 hl (by decide) rfl (fun ls hl => ?_)
          refine lv_iinc (v := (v5 + 1)) (lv' := [(5, .int ((v5 + 1))), (4, .int ((v4 + 0))), (0, .ref q0), (2, .int p2), (3, .int v3)]) hx hb dX12_winter_93 hl (k := 4) rfl rfl (by decide) rfl (fun ls hl => ?_)
          refine lv_goto (tgt := 25) hx hb dX12_winter_96 (by decide) ?_
          exact ih v3 ((v4 + 0)) ((v5 + 1)) ((upd a_weather (s1 : Int32).toNatClampNeg s0)) _ hf hE _ _ _ (lv_sub hl [2, 3, 4, 1, 0] rfl) hP hD hS
        · rw [if_neg c8] at hf
          refine lv_iconst (v := 1) hx hb dX12_winter_85 (by decide) ?_
          refine lv_goto (tgt := 90) hx hb dX12_winter_86 (by decide) ?_
          refine lv_iadd hx hb dX12_winter_90 ?_
          refine lv_istore (lv' := [(4, .int ((v4 + 1))), (0, .ref q0), (2, .int p2), (3, .int v3), (5, .int v5)]) hx hb dX12_winter_91 hl (by decide) rfl (fun ls hl => ?_)
          refine lv_iinc (v := (v5 + 1)) (lv' := [(5, .int ((v5 + 1))), (4, .int ((v4 + 1))), (0, .ref q0), (2, .int p2), (3, .int v3)]) hx hb dX12_winter_93 hl (k := 4) rfl rfl (by decide) rfl (fun ls hl => ?_)
          refine lv_goto (tgt := 25) hx hb dX12_winter_96 (by decide) ?_
          exact ih v3 ((v4 + 1)) ((v5 + 1)) ((upd a_weather (s1 : Int32).toNatClampNeg s0)) _ hf hE _ _ _ (lv_sub hl [2, 3, 4, 1, 0] rfl) hP hD hS
      intro H locs ls hl hP hD hS
      rw [fX12_winter_L25] at hf
      refine lv_iload hx hb dX12_winter_25 (lv_at hl 4 rfl) ?_
      refine lv_iload_n hx hb dX12_winter_27 rfl (lv_at hl 1 rfl) ?_
      refine lv_icmp_ge (tgt := 99) hx hb dX12_winter_28 (by decide) (fun c4 => ?_) (fun c4 => ?_)
      · rw [if_pos c4] at hf
        have hf := Option.some.inj hf
        subst hf
        exact hE _ _ _ (lv_sub hl [0, 1, 3] rfl) hP hD hS
      · rw [if_neg c4] at hf
        refine lv_iload_n hx hb dX12_winter_31 rfl (lv_at hl 2 rfl) ?_
        refine lv_ldc hx hb C.2.2.2.1 (C.2.2.2.2.1 _ (List.mem_cons_of_mem _ q1539)) dX12_winter_32 ?_
        refine lv_imul hx hb dX12_winter_34 ?_
        refine lv_sipush (v := 12345) hx hb dX12_winter_35 (by decide) ?_
        refine lv_iadd hx hb dX12_winter_38 ?_
        refine lv_istore_n (lv' := [(3, .int ((((v3 * 1103515245)) + 12345))), (0, .ref q0), (2, .int p2), (4, .int v4), (5, .int v5)]) hx hb dX12_winter_39 rfl hl (by decide) rfl (fun ls hl => ?_)
        refine lv_iload_n hx hb dX12_winter_40 rfl (lv_at hl 0 rfl) ?_
        refine lv_bipush (v := 16) hx hb dX12_winter_41 (by decide) ?_
        refine lv_iushr (v := (ush ((((v3 * 1103515245)) + 12345)) 16)) hx hb dX12_winter_43 rfl ?_
        refine lv_bipush (v := 16) hx hb dX12_winter_44 (by decide) ?_
        refine r_irem hx hb dX12_winter_46 (by decide) ?_
        refine lv_istore (lv' := [(6, .int ((rem ((ush ((((v3 * 1103515245)) + 12345)) 16)) 16))), (3, .int ((((v3 * 1103515245)) + 12345))), (0, .ref q0), (2, .int p2), (4, .int v4), (5, .int v5)]) hx hb dX12_winter_47 hl (by decide) rfl (fun ls hl => ?_)
        refine lv_aload_n hx hb dX12_winter_49 rfl (lv_at hl 2 rfl) ?_
        refine gf_RX12_22 C hP 0 rfl rfl dX12_winter_50 ?_
        refine lv_iload hx hb dX12_winter_53 (lv_at hl 5 rfl) ?_
        refine lv_iload hx hb dX12_winter_55 (lv_at hl 0 rfl) ?_
        refine lv_bipush (v := 10) hx hb dX12_winter_57 (by decide) ?_
        refine lv_icmp_ge (tgt := 67) hx hb dX12_winter_59 (by decide) (fun c5 => ?_) (fun c5 => ?_)
        · rw [if_pos c5] at hf
          refine lv_bipush (v := 9) hx hb dX12_winter_67 (by decide) ?_
          refine lv_iload hx hb dX12_winter_69 (lv_at hl 0 rfl) ?_
          refine lv_isub hx hb dX12_winter_71 ?_
          exact J72 ((((v3 * 1103515245)) + 12345)) v4 v5 ((9 - ((rem ((ush ((((v3 * 1103515245)) + 12345)) 16)) 16)))) v5 a_weather hf _ _ _ (lv_sub hl [2, 3, 1, 4, 5] rfl) hP hD hS
        · rw [if_neg c5] at hf
          refine lv_iload hx hb dX12_winter_62 (lv_at hl 0 rfl) ?_
          refine lv_goto (tgt := 72) hx hb dX12_winter_64 (by decide) ?_
          exact J72 ((((v3 * 1103515245)) + 12345)) v4 v5 ((rem ((ush ((((v3 * 1103515245)) + 12345)) 16)) 16)) v5 a_weather hf _ _ _ (lv_sub hl [2, 3, 1, 4, 5] rfl) hP hD hS
  intro H locs ls hl hP hD hS
  have hl : lv_has ls 7 [(0, .ref q0), (1, .int p1), (2, .int p2)] := hl
  unfold fX12_winter at hf
  refine lv_aload_n hx hb dX12_winter_0 rfl (lv_at hl 0 rfl) ?_
  refine lv_iconst (v := 0) hx hb dX12_winter_1 (by decide) ?_
  refine pf_RX12_87 C hP hD hS 0 rfl (Nat.le_of_ble_eq_true rfl) dX12_winter_2 (fun H locs hP hD hS => ?_)
  have hP : va_P E.1 classes (WX12_winter E q0 q0_now q0_hold q0_below q0_hay q0_weather q0_text q0_row q0_comes q0_rule q0_owedBy q0_undos q0_aside q0_acts q0_ring q0_bestRing q0_nets q0_worked q0_then q0_plan q0_bestPlan q0_tried q0_tracks q0_kept q0_isKept q0_keptCame i_houses i_weatherMany i_typed i_rowMany 0 x_read i_length i_top i_at i_wrong i_ruleSize i_isAsked i_askedInches i_askedPath i_askedDay i_askedRoof i_askedBelow i_askedLoose i_slidesMany i_owedNow i_slidInto i_undoMany i_bestLength i_setOff i_letLie i_trackMany i_came a_weather) H := hP
  have hD : va_D A (WX12_winter E q0 q0_now q0_hold q0_below q0_hay q0_weather q0_text q0_row q0_comes q0_rule q0_owedBy q0_undos q0_aside q0_acts q0_ring q0_bestRing q0_nets q0_worked q0_then q0_plan q0_bestPlan q0_tried q0_tracks q0_kept q0_isKept q0_keptCame i_houses i_weatherMany i_typed i_rowMany 0 x_read i_length i_top i_at i_wrong i_ruleSize i_isAsked i_askedInches i_askedPath i_askedDay i_askedRoof i_askedBelow i_askedLoose i_slidesMany i_owedNow i_slidInto i_undoMany i_bestLength i_setOff i_letLie i_trackMany i_came a_weather) := hD
  refine lv_iload_n hx hb dX12_winter_5 rfl (lv_at hl 2 rfl) ?_
  refine lv_iconst (v := 1) hx hb dX12_winter_6 (by decide) ?_
  refine lv_bipush (v := 40) hx hb dX12_winter_7 (by decide) ?_
  obtain ⟨o1, hg2, hf⟩ := bd_some hf
  refine k_SI (As := [.int p2, .int 1, .int 40]) C K_RX12_97 (Nat.le_of_ble_eq_true rfl) (Nat.le_of_ble_eq_true rfl) (kX12_in l E p2 1 40 o1 hg2) [] rfl rfl rfl  hP hD hS hA hl.1 (Nat.le_of_ble_eq_true rfl) rfl dX12_winter_9 (fun H locs hP hD hS => ?_)
  have hP : va_P E.1 classes (WX12_winter E q0 q0_now q0_hold q0_below q0_hay q0_weather q0_text q0_row q0_comes q0_rule q0_owedBy q0_undos q0_aside q0_acts q0_ring q0_bestRing q0_nets q0_worked q0_then q0_plan q0_bestPlan q0_tried q0_tracks q0_kept q0_isKept q0_keptCame i_houses i_weatherMany i_typed i_rowMany 0 x_read i_length i_top i_at i_wrong i_ruleSize i_isAsked i_askedInches i_askedPath i_askedDay i_askedRoof i_askedBelow i_askedLoose i_slidesMany i_owedNow i_slidInto i_undoMany i_bestLength i_setOff i_letLie i_trackMany i_came a_weather) H := hP
  have hD : va_D A (WX12_winter E q0 q0_now q0_hold q0_below q0_hay q0_weather q0_text q0_row q0_comes q0_rule q0_owedBy q0_undos q0_aside q0_acts q0_ring q0_bestRing q0_nets q0_worked q0_then q0_plan q0_bestPlan q0_tried q0_tracks q0_kept q0_isKept q0_keptCame i_houses i_weatherMany i_typed i_rowMany 0 x_read i_length i_top i_at i_wrong i_ruleSize i_isAsked i_askedInches i_askedPath i_askedDay i_askedRoof i_askedBelow i_askedLoose i_slidesMany i_owedNow i_slidInto i_undoMany i_bestLength i_setOff i_letLie i_trackMany i_came a_weather) := hD
  refine lv_if_ne (tgt := 17) hx hb dX12_winter_12 (by decide) (fun c3 => ?_) (fun c3 => ?_)
  · rw [if_neg c3] at hf
    refine lv_iload_n hx hb dX12_winter_17 rfl (lv_at hl 1 rfl) ?_
    refine lv_istore_n (lv' := [(3, .int p1), (0, .ref q0), (1, .int p1), (2, .int p2)]) hx hb dX12_winter_18 rfl hl (by decide) rfl (fun ls hl => ?_)
    refine lv_iconst (v := 0) hx hb dX12_winter_19 (by decide) ?_
    refine lv_istore (lv' := [(4, .int 0), (3, .int p1), (0, .ref q0), (1, .int p1), (2, .int p2)]) hx hb dX12_winter_20 hl (by decide) rfl (fun ls hl => ?_)
    refine lv_iconst (v := 0) hx hb dX12_winter_22 (by decide) ?_
    refine lv_istore (lv' := [(5, .int 0), (4, .int 0), (3, .int p1), (0, .ref q0), (1, .int p1), (2, .int p2)]) hx hb dX12_winter_23 hl (by decide) rfl (fun ls hl => ?_)
    obtain ⟨o9, hg10, hf⟩ := bd_some hf
    refine L25 i_weatherMany 0 FU p1 0 0 a_weather o9 hg10 ?_ _ _ _ (lv_sub hl [3, 5, 2, 1, 0] rfl) hP hD hS
    intro H locs ls hl hP hD hS
    refine lv_aload_n hx hb dX12_winter_99 rfl (lv_at hl 0 rfl) ?_
    refine lv_iload_n hx hb dX12_winter_100 rfl (lv_at hl 1 rfl) ?_
    refine pf_RX12_157 C hP hD hS 0 rfl (Nat.le_of_ble_eq_true rfl) dX12_winter_101 (fun H locs hP hD hS => ?_)
    have hP : va_P E.1 classes (WX12_winter E q0 q0_now q0_hold q0_below q0_hay q0_weather q0_text q0_row q0_comes q0_rule q0_owedBy q0_undos q0_aside q0_acts q0_ring q0_bestRing q0_nets q0_worked q0_then q0_plan q0_bestPlan q0_tried q0_tracks q0_kept q0_isKept q0_keptCame i_houses p2 i_typed i_rowMany 0 x_read i_length i_top i_at i_wrong i_ruleSize i_isAsked i_askedInches i_askedPath i_askedDay i_askedRoof i_askedBelow i_askedLoose i_slidesMany i_owedNow i_slidInto i_undoMany i_bestLength i_setOff i_letLie i_trackMany i_came o9.2) H := hP
    have hD : va_D A (WX12_winter E q0 q0_now q0_hold q0_below q0_hay q0_weather q0_text q0_row q0_comes q0_rule q0_owedBy q0_undos q0_aside q0_acts q0_ring q0_bestRing q0_nets q0_worked q0_then q0_plan q0_bestPlan q0_tried q0_tracks q0_kept q0_isKept q0_keptCame i_houses p2 i_typed i_rowMany 0 x_read i_length i_top i_at i_wrong i_ruleSize i_isAsked i_askedInches i_askedPath i_askedDay i_askedRoof i_askedBelow i_askedLoose i_slidesMany i_owedNow i_slidInto i_undoMany i_bestLength i_setOff i_letLie i_trackMany i_came o9.2) := hD
    refine lv_iload hx hb dX12_winter_104 (lv_at hl 2 rfl) ?_
    have hj0 := Option.some.inj hf
    obtain ⟨ha0, hj1⟩ := Prod.mk.inj hj0
    obtain ⟨ha1, hj2⟩ := Prod.mk.inj hj1
    obtain ⟨ha2, hj3⟩ := Prod.mk.inj hj2
    subst ha0
    subst ha1
    subst ha2
    subst hj3
    exact hret _ _ _ _ dX12_winter_106 rfl hP hD hS
  · rw [if_pos c3] at hf
    refine lv_iconst (v := (-1)) hx hb dX12_winter_15 (by decide) ?_
    have hj0 := Option.some.inj hf
    obtain ⟨ha0, hj1⟩ := Prod.mk.inj hj0
    obtain ⟨ha1, hj2⟩ := Prod.mk.inj hj1
    obtain ⟨ha2, hj3⟩ := Prod.mk.inj hj2
    subst ha0
    subst ha1
    subst ha2
    subst hj3
    exact hret _ _ _ _ dX12_winter_16 rfl hP hD hS
theorem gf_RX12_157 {p : Program} {l : Launch} {e : Env} {R : Room} {s : State} {m : MethodId} {args : Array Value} {below : List Frame} {meth : Method} {c : Code} {H : Heap} {locs : List Loc} {cells slots : Nat} {Q : State → Prop} {E : ENV} {cc : ByteArray} {n : Nat} {r : Option FieldType} {pc : Nat} {ls : Array Slot} {rest : List Value} {a : Nat} {ws : va_W} {nm ds : String} {fs : List Value} {A : Nat → Prop} {v : Value} (C : Cx E A ⟨RX12, nm, ds⟩ cc n r p s m args meth c) (hP : va_P E.1 classes ws H) (q0 : Nat) (he : ws[q0]? = some (a, .inr (12, fs))) (hv : fs[6]? = some v) (hdg : decode cc pc = .ok (.getfield 157, 3))
    (kk : W p l e R s m args below meth c H locs cells slots Q (F0 m (pc + 3) ls (v :: rest))) : W p l e R s m args below meth c H locs cells slots Q (F0 m pc ls (.ref a :: rest)) :=
  va_get (C := RX12) (T := TX12) (N := 52) (Ts := wl ⟨RX12, nm, ds⟩ cc n r) C.1 C.2.1 C.2.2.2.2.1 (fun w h => List.mem_cons_of_mem _ (inT12 w h)) C.2.2.2.1 C.2.2.2.2.2.1 hP q0 he rfl 6 (by decide) (C.2.2.2.2.1 _ (List.mem_cons_of_mem _ q1332)) (fun _ h9 => h9) hv hdg kk
theorem dX12_weatherOf_0 : decode cX12_weatherOf 0 = .ok (.aload_n 0, 1) := by decide +kernel
theorem dX12_weatherOf_1 : decode cX12_weatherOf 1 = .ok (.getfield 157, 3) := by decide +kernel
theorem dX12_weatherOf_4 : decode cX12_weatherOf 4 = .ok (.ifCond .ne 7, 3) := by decide +kernel
theorem dX12_weatherOf_7 : decode cX12_weatherOf 7 = .ok (.iconst 0, 1) := by decide +kernel
theorem dX12_weatherOf_8 : decode cX12_weatherOf 8 = .ok (.goto 14, 3) := by decide +kernel
theorem dX12_weatherOf_11 : decode cX12_weatherOf 11 = .ok (.aload_n 0, 1) := by decide +kernel
theorem dX12_weatherOf_12 : decode cX12_weatherOf 12 = .ok (.getfield 22, 3) := by decide +kernel
theorem dX12_weatherOf_15 : decode cX12_weatherOf 15 = .ok (.iload_n 1, 1) := by decide +kernel
theorem dX12_weatherOf_16 : decode cX12_weatherOf 16 = .ok (.aload_n 0, 1) := by decide +kernel
theorem dX12_weatherOf_17 : decode cX12_weatherOf 17 = .ok (.getfield 157, 3) := by decide +kernel
theorem dX12_weatherOf_20 : decode cX12_weatherOf 20 = .ok (.irem, 1) := by decide +kernel
theorem dX12_weatherOf_21 : decode cX12_weatherOf 21 = .ok (.iaload, 1) := by decide +kernel
theorem dX12_weatherOf_22 : decode cX12_weatherOf 22 = .ok (.ireturn, 1) := by decide +kernel
def WX12_weatherOf (E : ENV) (q0 : Nat) (q0_now : Nat) (q0_hold : Nat) (q0_below : Nat) (q0_hay : Nat) (q0_weather : Nat) (q0_text : Nat) (q0_row : Nat) (q0_comes : Nat) (q0_rule : Nat) (q0_owedBy : Nat) (q0_undos : Nat) (q0_aside : Nat) (q0_acts : Nat) (q0_ring : Nat) (q0_bestRing : Nat) (q0_nets : Nat) (q0_worked : Nat) (q0_then : Nat) (q0_plan : Nat) (q0_bestPlan : Nat) (q0_tried : Nat) (q0_tracks : Nat) (q0_kept : Nat) (q0_isKept : Nat) (q0_keptCame : Nat) (i_houses : Int32) (i_weatherMany : Int32) (i_typed : Int32) (i_rowMany : Int32) (i_thrown : Int32) (x_read : Value) (i_length : Int32) (i_top : Int32) (i_at : Int32) (i_wrong : Int32) (i_ruleSize : Int32) (i_isAsked : Int32) (i_askedInches : Int32) (i_askedPath : Int32) (i_askedDay : Int32) (i_askedRoof : Int32) (i_askedBelow : Int32) (i_askedLoose : Int32) (i_slidesMany : Int32) (i_owedNow : Int32) (i_slidInto : Int32) (i_undoMany : Int32) (i_bestLength : Int32) (i_setOff : Int32) (i_letLie : Int32) (i_trackMany : Int32) (i_came : Int32) (a_weather : Nat → Int32) : va_W := [(q0, .inr (12, [.ref q0_now, .int i_houses, .ref q0_hold, .ref q0_below, .ref q0_hay, .ref q0_weather, .int i_weatherMany, .ref q0_text, .int i_typed, .ref q0_row, .int i_rowMany, .int i_thrown, x_read, .int i_length, .int i_top, .int i_at, .int i_wrong, .ref q0_comes, .ref q0_rule, .int i_ruleSize, .int i_isAsked, .int i_askedInches, .int i_askedPath, .int i_askedDay, .int i_askedRoof, .int i_askedBelow, .int i_askedLoose, .int i_slidesMany, .int i_owedNow, .ref q0_owedBy, .int i_slidInto, .ref q0_undos, .int i_undoMany, .ref q0_aside, .ref q0_acts, .ref q0_ring, .ref q0_bestRing, .int i_bestLength, .ref q0_nets, .ref q0_worked, .ref q0_then, .ref q0_plan, .ref q0_bestPlan, .ref q0_tried, .int i_setOff, .int i_letLie, .ref q0_tracks, .int i_trackMany, .int i_came, .ref q0_kept, .ref q0_isKept, .ref q0_keptCame])), (q0_weather, .inl (E.2.1, 40, .inl a_weather))]
set_option maxHeartbeats 4000000 in
set_option maxRecDepth 20000 in
theorem kX12_weatherOf (l : Launch) (E : ENV) (q0 : Nat) (q0_now : Nat) (q0_hold : Nat) (q0_below : Nat) (q0_hay : Nat) (q0_weather : Nat) (q0_text : Nat) (q0_row : Nat) (q0_comes : Nat) (q0_rule : Nat) (q0_owedBy : Nat) (q0_undos : Nat) (q0_aside : Nat) (q0_acts : Nat) (q0_ring : Nat) (q0_bestRing : Nat) (q0_nets : Nat) (q0_worked : Nat) (q0_then : Nat) (q0_plan : Nat) (q0_bestPlan : Nat) (q0_tried : Nat) (q0_tracks : Nat) (q0_kept : Nat) (q0_isKept : Nat) (q0_keptCame : Nat) (i_houses : Int32) (i_weatherMany : Int32) (i_typed : Int32) (i_rowMany : Int32) (i_thrown : Int32) (x_read : Value) (i_length : Int32) (i_top : Int32) (i_at : Int32) (i_wrong : Int32) (i_ruleSize : Int32) (i_isAsked : Int32) (i_askedInches : Int32) (i_askedPath : Int32) (i_askedDay : Int32) (i_askedRoof : Int32) (i_askedBelow : Int32) (i_askedLoose : Int32) (i_slidesMany : Int32) (i_owedNow : Int32) (i_slidInto : Int32) (i_undoMany : Int32) (i_bestLength : Int32) (i_setOff : Int32) (i_letLie : Int32) (i_trackMany : Int32) (i_came : Int32) (a_weather : Nat → Int32) (p1 : Int32) (r9 : Int32) (hf : fX12_weatherOf i_weatherMany a_weather p1 = some r9) : CI l E yX12_weatherOf cX12_weatherOf 2 (some .int) 0 [.ref q0, .int p1] (WX12_weatherOf E q0 q0_now q0_hold q0_below q0_hay q0_weather q0_text q0_row q0_comes q0_rule q0_owedBy q0_undos q0_aside q0_acts q0_ring q0_bestRing q0_nets q0_worked q0_then q0_plan q0_bestPlan q0_tried q0_tracks q0_kept q0_isKept q0_keptCame i_houses i_weatherMany i_typed i_rowMany i_thrown x_read i_length i_top i_at i_wrong i_ruleSize i_isAsked i_askedInches i_askedPath i_askedDay i_askedRoof i_askedBelow i_askedLoose i_slidesMany i_owedNow i_slidInto i_undoMany i_bestLength i_setOff i_letLie i_trackMany i_came a_weather) (WX12_weatherOf E q0 q0_now q0_hold q0_below q0_hay q0_weather q0_text q0_row q0_comes q0_rule q0_owedBy q0_undos q0_aside q0_acts q0_ring q0_bestRing q0_nets q0_worked q0_then q0_plan q0_bestPlan q0_tried q0_tracks q0_kept q0_isKept q0_keptCame i_houses i_weatherMany i_typed i_rowMany i_thrown x_read i_length i_top i_at i_wrong i_ruleSize i_isAsked i_askedInches i_askedPath i_askedDay i_askedRoof i_askedBelow i_askedLoose i_slidesMany i_owedNow i_slidInto i_undoMany i_bestLength i_setOff i_letLie i_trackMany i_came a_weather) r9 := by
  refine begI (by decide +kernel) (Nat.le_of_ble_eq_true rfl) ?_
  intro p e s m args below meth c A Q C hA hret
  have hx := C.1
  have hb := C.2.1
  intro H locs ls hl hP hD hS
  have hl : lv_has ls 2 [(0, .ref q0), (1, .int p1)] := hl
  unfold fX12_weatherOf at hf
  refine lv_aload_n hx hb dX12_weatherOf_0 rfl (lv_at hl 0 rfl) ?_
  refine gf_RX12_157 C hP 0 rfl rfl dX12_weatherOf_1 ?_
  refine lv_if_ne (tgt := 11) hx hb dX12_weatherOf_4 (by decide) (fun c1 => ?_) (fun c1 => ?_)
  · rw [if_neg c1] at hf
    refine lv_aload_n hx hb dX12_weatherOf_11 rfl (lv_at hl 0 rfl) ?_
    refine gf_RX12_22 C hP 0 rfl rfl dX12_weatherOf_12 ?_
    refine lv_iload_n hx hb dX12_weatherOf_15 rfl (lv_at hl 1 rfl) ?_
    refine lv_aload_n hx hb dX12_weatherOf_16 rfl (lv_at hl 0 rfl) ?_
    refine gf_RX12_157 C hP 0 rfl rfl dX12_weatherOf_17 ?_
    obtain ⟨g2, hf⟩ := gd_some hf
    refine r_irem hx hb dX12_weatherOf_20 (nz_ne g2) ?_
    obtain ⟨g3, hf⟩ := gd_some hf
    refine va_iald hx hb C.2.2.2.2.2.1 hP 1 0 rfl rfl (vin_in g3) dX12_weatherOf_21 ?_
    have hj0 := Option.some.inj hf
    subst hj0
    exact hret _ _ _ _ dX12_weatherOf_22 rfl hP hD hS
  · rw [if_pos c1] at hf
    refine lv_iconst (v := 0) hx hb dX12_weatherOf_7 (by decide) ?_
    refine lv_goto (tgt := 22) hx hb dX12_weatherOf_8 (by decide) ?_
    have hj0 := Option.some.inj hf
    subst hj0
    exact hret _ _ _ _ dX12_weatherOf_22 rfl hP hD hS
theorem K_RX12_161 : KV RX12 161 yX12_weatherOf cX12_weatherOf 2 (some .int) 1 := ⟨Tg_mem 1547 (by decide +kernel) (by decide +kernel), Tg_mem 102 (by decide +kernel) (by decide +kernel), Tg_mem 1544 (by decide +kernel) (by decide +kernel), Tg_mem 1546 (by decide +kernel) (by decide +kernel), Tg_mem 48 (by decide +kernel) (by decide +kernel), by decide +kernel⟩
theorem q1576 : Cond.methodLink RX12 165 Lib.Math.max.name ∈ Tg := Tg_mem 1576 (by decide +kernel) (by decide +kernel)
theorem dX12_thawOf_0 : decode cX12_thawOf 0 = .ok (.iconst 0, 1) := by decide +kernel
theorem dX12_thawOf_1 : decode cX12_thawOf 1 = .ok (.aload_n 0, 1) := by decide +kernel
theorem dX12_thawOf_2 : decode cX12_thawOf 2 = .ok (.iload_n 1, 1) := by decide +kernel
theorem dX12_thawOf_3 : decode cX12_thawOf 3 = .ok (.invokevirtual 161, 3) := by decide +kernel
theorem dX12_thawOf_6 : decode cX12_thawOf 6 = .ok (.ineg, 1) := by decide +kernel
theorem dX12_thawOf_7 : decode cX12_thawOf 7 = .ok (.invokestatic 165, 3) := by decide +kernel
theorem dX12_thawOf_10 : decode cX12_thawOf 10 = .ok (.ireturn, 1) := by decide +kernel
def WX12_thawOf (E : ENV) (q0 : Nat) (q0_now : Nat) (q0_hold : Nat) (q0_below : Nat) (q0_hay : Nat) (q0_weather : Nat) (q0_text : Nat) (q0_row : Nat) (q0_comes : Nat) (q0_rule : Nat) (q0_owedBy : Nat) (q0_undos : Nat) (q0_aside : Nat) (q0_acts : Nat) (q0_ring : Nat) (q0_bestRing : Nat) (q0_nets : Nat) (q0_worked : Nat) (q0_then : Nat) (q0_plan : Nat) (q0_bestPlan : Nat) (q0_tried : Nat) (q0_tracks : Nat) (q0_kept : Nat) (q0_isKept : Nat) (q0_keptCame : Nat) (i_houses : Int32) (i_weatherMany : Int32) (i_typed : Int32) (i_rowMany : Int32) (i_thrown : Int32) (x_read : Value) (i_length : Int32) (i_top : Int32) (i_at : Int32) (i_wrong : Int32) (i_ruleSize : Int32) (i_isAsked : Int32) (i_askedInches : Int32) (i_askedPath : Int32) (i_askedDay : Int32) (i_askedRoof : Int32) (i_askedBelow : Int32) (i_askedLoose : Int32) (i_slidesMany : Int32) (i_owedNow : Int32) (i_slidInto : Int32) (i_undoMany : Int32) (i_bestLength : Int32) (i_setOff : Int32) (i_letLie : Int32) (i_trackMany : Int32) (i_came : Int32) (a_weather : Nat → Int32) : va_W := [(q0, .inr (12, [.ref q0_now, .int i_houses, .ref q0_hold, .ref q0_below, .ref q0_hay, .ref q0_weather, .int i_weatherMany, .ref q0_text, .int i_typed, .ref q0_row, .int i_rowMany, .int i_thrown, x_read, .int i_length, .int i_top, .int i_at, .int i_wrong, .ref q0_comes, .ref q0_rule, .int i_ruleSize, .int i_isAsked, .int i_askedInches, .int i_askedPath, .int i_askedDay, .int i_askedRoof, .int i_askedBelow, .int i_askedLoose, .int i_slidesMany, .int i_owedNow, .ref q0_owedBy, .int i_slidInto, .ref q0_undos, .int i_undoMany, .ref q0_aside, .ref q0_acts, .ref q0_ring, .ref q0_bestRing, .int i_bestLength, .ref q0_nets, .ref q0_worked, .ref q0_then, .ref q0_plan, .ref q0_bestPlan, .ref q0_tried, .int i_setOff, .int i_letLie, .ref q0_tracks, .int i_trackMany, .int i_came, .ref q0_kept, .ref q0_isKept, .ref q0_keptCame])), (q0_weather, .inl (E.2.1, 40, .inl a_weather))]
set_option maxHeartbeats 4000000 in
set_option maxRecDepth 20000 in
theorem kX12_thawOf (l : Launch) (E : ENV) (q0 : Nat) (q0_now : Nat) (q0_hold : Nat) (q0_below : Nat) (q0_hay : Nat) (q0_weather : Nat) (q0_text : Nat) (q0_row : Nat) (q0_comes : Nat) (q0_rule : Nat) (q0_owedBy : Nat) (q0_undos : Nat) (q0_aside : Nat) (q0_acts : Nat) (q0_ring : Nat) (q0_bestRing : Nat) (q0_nets : Nat) (q0_worked : Nat) (q0_then : Nat) (q0_plan : Nat) (q0_bestPlan : Nat) (q0_tried : Nat) (q0_tracks : Nat) (q0_kept : Nat) (q0_isKept : Nat) (q0_keptCame : Nat) (i_houses : Int32) (i_weatherMany : Int32) (i_typed : Int32) (i_rowMany : Int32) (i_thrown : Int32) (x_read : Value) (i_length : Int32) (i_top : Int32) (i_at : Int32) (i_wrong : Int32) (i_ruleSize : Int32) (i_isAsked : Int32) (i_askedInches : Int32) (i_askedPath : Int32) (i_askedDay : Int32) (i_askedRoof : Int32) (i_askedBelow : Int32) (i_askedLoose : Int32) (i_slidesMany : Int32) (i_owedNow : Int32) (i_slidInto : Int32) (i_undoMany : Int32) (i_bestLength : Int32) (i_setOff : Int32) (i_letLie : Int32) (i_trackMany : Int32) (i_came : Int32) (a_weather : Nat → Int32) (p1 : Int32) (r9 : Int32) (hf : fX12_thawOf i_weatherMany a_weather p1 = some r9) : CI l E yX12_thawOf cX12_thawOf 2 (some .int) 1 [.ref q0, .int p1] (WX12_thawOf E q0 q0_now q0_hold q0_below q0_hay q0_weather q0_text q0_row q0_comes q0_rule q0_owedBy q0_undos q0_aside q0_acts q0_ring q0_bestRing q0_nets q0_worked q0_then q0_plan q0_bestPlan q0_tried q0_tracks q0_kept q0_isKept q0_keptCame i_houses i_weatherMany i_typed i_rowMany i_thrown x_read i_length i_top i_at i_wrong i_ruleSize i_isAsked i_askedInches i_askedPath i_askedDay i_askedRoof i_askedBelow i_askedLoose i_slidesMany i_owedNow i_slidInto i_undoMany i_bestLength i_setOff i_letLie i_trackMany i_came a_weather) (WX12_thawOf E q0 q0_now q0_hold q0_below q0_hay q0_weather q0_text q0_row q0_comes q0_rule q0_owedBy q0_undos q0_aside q0_acts q0_ring q0_bestRing q0_nets q0_worked q0_then q0_plan q0_bestPlan q0_tried q0_tracks q0_kept q0_isKept q0_keptCame i_houses i_weatherMany i_typed i_rowMany i_thrown x_read i_length i_top i_at i_wrong i_ruleSize i_isAsked i_askedInches i_askedPath i_askedDay i_askedRoof i_askedBelow i_askedLoose i_slidesMany i_owedNow i_slidInto i_undoMany i_bestLength i_setOff i_letLie i_trackMany i_came a_weather) r9 := by
  refine begI (by decide +kernel) (Nat.le_of_ble_eq_true rfl) ?_
  intro p e s m args below meth c A Q C hA hret
  have hx := C.1
  have hb := C.2.1
  intro H locs ls hl hP hD hS
  have hl : lv_has ls 2 [(0, .ref q0), (1, .int p1)] := hl
  unfold fX12_thawOf at hf
  refine lv_iconst (v := 0) hx hb dX12_thawOf_0 (by decide) ?_
  refine lv_aload_n hx hb dX12_thawOf_1 rfl (lv_at hl 0 rfl) ?_
  refine lv_iload_n hx hb dX12_thawOf_2 rfl (lv_at hl 1 rfl) ?_
  obtain ⟨o1, hg2, hf⟩ := bd_some hf
  refine k_VI (As := [.int p1]) C K_RX12_161 (Nat.le_of_ble_eq_true rfl) (Nat.le_of_ble_eq_true rfl) (kX12_weatherOf l E q0 q0_now q0_hold q0_below q0_hay q0_weather q0_text q0_row q0_comes q0_rule q0_owedBy q0_undos q0_aside q0_acts q0_ring q0_bestRing q0_nets q0_worked q0_then q0_plan q0_bestPlan q0_tried q0_tracks q0_kept q0_isKept q0_keptCame i_houses i_weatherMany i_typed i_rowMany i_thrown x_read i_length i_top i_at i_wrong i_ruleSize i_isAsked i_askedInches i_askedPath i_askedDay i_askedRoof i_askedBelow i_askedLoose i_slidesMany i_owedNow i_slidInto i_undoMany i_bestLength i_setOff i_letLie i_trackMany i_came a_weather p1 o1 hg2) [0, 1] rfl rfl rfl (ci := 12) rfl rfl (q0 := 0) rfl hP hD hS hA hl.1 (Nat.le_of_ble_eq_true rfl) rfl dX12_thawOf_3 (fun H locs hP hD hS => ?_)
  have hP : va_P E.1 classes (WX12_thawOf E q0 q0_now q0_hold q0_below q0_hay q0_weather q0_text q0_row q0_comes q0_rule q0_owedBy q0_undos q0_aside q0_acts q0_ring q0_bestRing q0_nets q0_worked q0_then q0_plan q0_bestPlan q0_tried q0_tracks q0_kept q0_isKept q0_keptCame i_houses i_weatherMany i_typed i_rowMany i_thrown x_read i_length i_top i_at i_wrong i_ruleSize i_isAsked i_askedInches i_askedPath i_askedDay i_askedRoof i_askedBelow i_askedLoose i_slidesMany i_owedNow i_slidInto i_undoMany i_bestLength i_setOff i_letLie i_trackMany i_came a_weather) H := hP
  have hD : va_D A (WX12_thawOf E q0 q0_now q0_hold q0_below q0_hay q0_weather q0_text q0_row q0_comes q0_rule q0_owedBy q0_undos q0_aside q0_acts q0_ring q0_bestRing q0_nets q0_worked q0_then q0_plan q0_bestPlan q0_tried q0_tracks q0_kept q0_isKept q0_keptCame i_houses i_weatherMany i_typed i_rowMany i_thrown x_read i_length i_top i_at i_wrong i_ruleSize i_isAsked i_askedInches i_askedPath i_askedDay i_askedRoof i_askedBelow i_askedLoose i_slidesMany i_owedNow i_slidInto i_undoMany i_bestLength i_setOff i_letLie i_trackMany i_came a_weather) := hD
  refine lv_ineg hx hb dX12_thawOf_6 ?_
  refine r_max C q1576 (Nat.le_of_ble_eq_true rfl) hl.1 (Nat.le_of_ble_eq_true rfl) dX12_thawOf_7 ?_
  have hj0 := Option.some.inj hf
  subst hj0
  exact hret _ _ _ _ dX12_thawOf_10 rfl hP hD hS
theorem dX12_falls_0 : decode cX12_falls 0 = .ok (.aload_n 0, 1) := by decide +kernel
theorem dX12_falls_1 : decode cX12_falls 1 = .ok (.iconst 0, 1) := by decide +kernel
theorem dX12_falls_2 : decode cX12_falls 2 = .ok (.putfield 87, 3) := by decide +kernel
theorem dX12_falls_5 : decode cX12_falls 5 = .ok (.iload_n 1, 1) := by decide +kernel
theorem dX12_falls_6 : decode cX12_falls 6 = .ok (.iconst 0, 1) := by decide +kernel
theorem dX12_falls_7 : decode cX12_falls 7 = .ok (.sipush 9999, 3) := by decide +kernel
theorem dX12_falls_10 : decode cX12_falls 10 = .ok (.invokestatic 97, 3) := by decide +kernel
theorem dX12_falls_13 : decode cX12_falls 13 = .ok (.ifCond .eq 11, 3) := by decide +kernel
theorem dX12_falls_16 : decode cX12_falls 16 = .ok (.aload_n 0, 1) := by decide +kernel
theorem dX12_falls_17 : decode cX12_falls 17 = .ok (.iload_n 1, 1) := by decide +kernel
theorem dX12_falls_18 : decode cX12_falls 18 = .ok (.invokevirtual 161, 3) := by decide +kernel
theorem dX12_falls_21 : decode cX12_falls 21 = .ok (.goto 5, 3) := by decide +kernel
theorem dX12_falls_24 : decode cX12_falls 24 = .ok (.bipush (-10), 2) := by decide +kernel
theorem dX12_falls_26 : decode cX12_falls 26 = .ok (.ireturn, 1) := by decide +kernel
def WX12_falls (E : ENV) (q0 : Nat) (q0_now : Nat) (q0_hold : Nat) (q0_below : Nat) (q0_hay : Nat) (q0_weather : Nat) (q0_text : Nat) (q0_row : Nat) (q0_comes : Nat) (q0_rule : Nat) (q0_owedBy : Nat) (q0_undos : Nat) (q0_aside : Nat) (q0_acts : Nat) (q0_ring : Nat) (q0_bestRing : Nat) (q0_nets : Nat) (q0_worked : Nat) (q0_then : Nat) (q0_plan : Nat) (q0_bestPlan : Nat) (q0_tried : Nat) (q0_tracks : Nat) (q0_kept : Nat) (q0_isKept : Nat) (q0_keptCame : Nat) (i_houses : Int32) (i_weatherMany : Int32) (i_typed : Int32) (i_rowMany : Int32) (i_thrown : Int32) (x_read : Value) (i_length : Int32) (i_top : Int32) (i_at : Int32) (i_wrong : Int32) (i_ruleSize : Int32) (i_isAsked : Int32) (i_askedInches : Int32) (i_askedPath : Int32) (i_askedDay : Int32) (i_askedRoof : Int32) (i_askedBelow : Int32) (i_askedLoose : Int32) (i_slidesMany : Int32) (i_owedNow : Int32) (i_slidInto : Int32) (i_undoMany : Int32) (i_bestLength : Int32) (i_setOff : Int32) (i_letLie : Int32) (i_trackMany : Int32) (i_came : Int32) (a_weather : Nat → Int32) : va_W := [(q0, .inr (12, [.ref q0_now, .int i_houses, .ref q0_hold, .ref q0_below, .ref q0_hay, .ref q0_weather, .int i_weatherMany, .ref q0_text, .int i_typed, .ref q0_row, .int i_rowMany, .int i_thrown, x_read, .int i_length, .int i_top, .int i_at, .int i_wrong, .ref q0_comes, .ref q0_rule, .int i_ruleSize, .int i_isAsked, .int i_askedInches, .int i_askedPath, .int i_askedDay, .int i_askedRoof, .int i_askedBelow, .int i_askedLoose, .int i_slidesMany, .int i_owedNow, .ref q0_owedBy, .int i_slidInto, .ref q0_undos, .int i_undoMany, .ref q0_aside, .ref q0_acts, .ref q0_ring, .ref q0_bestRing, .int i_bestLength, .ref q0_nets, .ref q0_worked, .ref q0_then, .ref q0_plan, .ref q0_bestPlan, .ref q0_tried, .int i_setOff, .int i_letLie, .ref q0_tracks, .int i_trackMany, .int i_came, .ref q0_kept, .ref q0_isKept, .ref q0_keptCame])), (q0_weather, .inl (E.2.1, 40, .inl a_weather))]
set_option maxHeartbeats 4000000 in
set_option maxRecDepth 20000 in
theorem kX12_falls (l : Launch) (E : ENV) (q0 : Nat) (q0_now : Nat) (q0_hold : Nat) (q0_below : Nat) (q0_hay : Nat) (q0_weather : Nat) (q0_text : Nat) (q0_row : Nat) (q0_comes : Nat) (q0_rule : Nat) (q0_owedBy : Nat) (q0_undos : Nat) (q0_aside : Nat) (q0_acts : Nat) (q0_ring : Nat) (q0_bestRing : Nat) (q0_nets : Nat) (q0_worked : Nat) (q0_then : Nat) (q0_plan : Nat) (q0_bestPlan : Nat) (q0_tried : Nat) (q0_tracks : Nat) (q0_kept : Nat) (q0_isKept : Nat) (q0_keptCame : Nat) (i_houses : Int32) (i_weatherMany : Int32) (i_typed : Int32) (i_rowMany : Int32) (i_thrown : Int32) (x_read : Value) (i_length : Int32) (i_top : Int32) (i_at : Int32) (i_wrong : Int32) (i_ruleSize : Int32) (i_isAsked : Int32) (i_askedInches : Int32) (i_askedPath : Int32) (i_askedDay : Int32) (i_askedRoof : Int32) (i_askedBelow : Int32) (i_askedLoose : Int32) (i_slidesMany : Int32) (i_owedNow : Int32) (i_slidInto : Int32) (i_undoMany : Int32) (i_bestLength : Int32) (i_setOff : Int32) (i_letLie : Int32) (i_trackMany : Int32) (i_came : Int32) (a_weather : Nat → Int32) (p1 : Int32) (r9 : Int32) (i_thrown9 : Int32) (hf : fX12_falls i_weatherMany i_thrown a_weather p1 = some (r9, i_thrown9)) : CI l E yX12_falls cX12_falls 2 (some .int) 1 [.ref q0, .int p1] (WX12_falls E q0 q0_now q0_hold q0_below q0_hay q0_weather q0_text q0_row q0_comes q0_rule q0_owedBy q0_undos q0_aside q0_acts q0_ring q0_bestRing q0_nets q0_worked q0_then q0_plan q0_bestPlan q0_tried q0_tracks q0_kept q0_isKept q0_keptCame i_houses i_weatherMany i_typed i_rowMany i_thrown x_read i_length i_top i_at i_wrong i_ruleSize i_isAsked i_askedInches i_askedPath i_askedDay i_askedRoof i_askedBelow i_askedLoose i_slidesMany i_owedNow i_slidInto i_undoMany i_bestLength i_setOff i_letLie i_trackMany i_came a_weather) (WX12_falls E q0 q0_now q0_hold q0_below q0_hay q0_weather q0_text q0_row q0_comes q0_rule q0_owedBy q0_undos q0_aside q0_acts q0_ring q0_bestRing q0_nets q0_worked q0_then q0_plan q0_bestPlan q0_tried q0_tracks q0_kept q0_isKept q0_keptCame i_houses i_weatherMany i_typed i_rowMany i_thrown9 x_read i_length i_top i_at i_wrong i_ruleSize i_isAsked i_askedInches i_askedPath i_askedDay i_askedRoof i_askedBelow i_askedLoose i_slidesMany i_owedNow i_slidInto i_undoMany i_bestLength i_setOff i_letLie i_trackMany i_came a_weather) r9 := by
  refine begI (by decide +kernel) (Nat.le_of_ble_eq_true rfl) ?_
  intro p e s m args below meth c A Q C hA hret
  have hx := C.1
  have hb := C.2.1
  intro H locs ls hl hP hD hS
  have hl : lv_has ls 2 [(0, .ref q0), (1, .int p1)] := hl
  unfold fX12_falls at hf
  refine lv_aload_n hx hb dX12_falls_0 rfl (lv_at hl 0 rfl) ?_
  refine lv_iconst (v := 0) hx hb dX12_falls_1 (by decide) ?_
  refine pf_RX12_87 C hP hD hS 0 rfl (Nat.le_of_ble_eq_true rfl) dX12_falls_2 (fun H locs hP hD hS => ?_)
  have hP : va_P E.1 classes (WX12_falls E q0 q0_now q0_hold q0_below q0_hay q0_weather q0_text q0_row q0_comes q0_rule q0_owedBy q0_undos q0_aside q0_acts q0_ring q0_bestRing q0_nets q0_worked q0_then q0_plan q0_bestPlan q0_tried q0_tracks q0_kept q0_isKept q0_keptCame i_houses i_weatherMany i_typed i_rowMany 0 x_read i_length i_top i_at i_wrong i_ruleSize i_isAsked i_askedInches i_askedPath i_askedDay i_askedRoof i_askedBelow i_askedLoose i_slidesMany i_owedNow i_slidInto i_undoMany i_bestLength i_setOff i_letLie i_trackMany i_came a_weather) H := hP
  have hD : va_D A (WX12_falls E q0 q0_now q0_hold q0_below q0_hay q0_weather q0_text q0_row q0_comes q0_rule q0_owedBy q0_undos q0_aside q0_acts q0_ring q0_bestRing q0_nets q0_worked q0_then q0_plan q0_bestPlan q0_tried q0_tracks q0_kept q0_isKept q0_keptCame i_houses i_weatherMany i_typed i_rowMany 0 x_read i_length i_top i_at i_wrong i_ruleSize i_isAsked i_askedInches i_askedPath i_askedDay i_askedRoof i_askedBelow i_askedLoose i_slidesMany i_owedNow i_slidInto i_undoMany i_bestLength i_setOff i_letLie i_trackMany i_came a_weather) := hD
  refine lv_iload_n hx hb dX12_falls_5 rfl (lv_at hl 1 rfl) ?_
  refine lv_iconst (v := 0) hx hb dX12_falls_6 (by decide) ?_
  refine lv_sipush (v := 9999) hx hb dX12_falls_7 (by decide) ?_
  obtain ⟨o1, hg2, hf⟩ := bd_some hf
  refine k_SI (As := [.int p1, .int 0, .int 9999]) C K_RX12_97 (Nat.le_of_ble_eq_true rfl) (Nat.le_of_ble_eq_true rfl) (kX12_in l E p1 0 9999 o1 hg2) [] rfl rfl rfl  hP hD hS hA hl.1 (Nat.le_of_ble_eq_true rfl) rfl dX12_falls_10 (fun H locs hP hD hS => ?_)
  have hP : va_P E.1 classes (WX12_falls E q0 q0_now q0_hold q0_below q0_hay q0_weather q0_text q0_row q0_comes q0_rule q0_owedBy q0_undos q0_aside q0_acts q0_ring q0_bestRing q0_nets q0_worked q0_then q0_plan q0_bestPlan q0_tried q0_tracks q0_kept q0_isKept q0_keptCame i_houses i_weatherMany i_typed i_rowMany 0 x_read i_length i_top i_at i_wrong i_ruleSize i_isAsked i_askedInches i_askedPath i_askedDay i_askedRoof i_askedBelow i_askedLoose i_slidesMany i_owedNow i_slidInto i_undoMany i_bestLength i_setOff i_letLie i_trackMany i_came a_weather) H := hP
  have hD : va_D A (WX12_falls E q0 q0_now q0_hold q0_below q0_hay q0_weather q0_text q0_row q0_comes q0_rule q0_owedBy q0_undos q0_aside q0_acts q0_ring q0_bestRing q0_nets q0_worked q0_then q0_plan q0_bestPlan q0_tried q0_tracks q0_kept q0_isKept q0_keptCame i_houses i_weatherMany i_typed i_rowMany 0 x_read i_length i_top i_at i_wrong i_ruleSize i_isAsked i_askedInches i_askedPath i_askedDay i_askedRoof i_askedBelow i_askedLoose i_slidesMany i_owedNow i_slidInto i_undoMany i_bestLength i_setOff i_letLie i_trackMany i_came a_weather) := hD
  refine lv_if_eq (tgt := 24) hx hb dX12_falls_13 (by decide) (fun c3 => ?_) (fun c3 => ?_)
  · rw [if_pos c3] at hf
    refine lv_bipush (v := (-10)) hx hb dX12_falls_24 (by decide) ?_
    have hj0 := Option.some.inj hf
    obtain ⟨ha0, hj1⟩ := Prod.mk.inj hj0
    subst ha0
    subst hj1
    exact hret _ _ _ _ dX12_falls_26 rfl hP hD hS
  · rw [if_neg c3] at hf
    refine lv_aload_n hx hb dX12_falls_16 rfl (lv_at hl 0 rfl) ?_
    refine lv_iload_n hx hb dX12_falls_17 rfl (lv_at hl 1 rfl) ?_
    obtain ⟨o4, hg5, hf⟩ := bd_some hf
    refine k_VI (As := [.int p1]) C K_RX12_161 (Nat.le_of_ble_eq_true rfl) (Nat.le_of_ble_eq_true rfl) (kX12_weatherOf l E q0 q0_now q0_hold q0_below q0_hay q0_weather q0_text q0_row q0_comes q0_rule q0_owedBy q0_undos q0_aside q0_acts q0_ring q0_bestRing q0_nets q0_worked q0_then q0_plan q0_bestPlan q0_tried q0_tracks q0_kept q0_isKept q0_keptCame i_houses i_weatherMany i_typed i_rowMany 0 x_read i_length i_top i_at i_wrong i_ruleSize i_isAsked i_askedInches i_askedPath i_askedDay i_askedRoof i_askedBelow i_askedLoose i_slidesMany i_owedNow i_slidInto i_undoMany i_bestLength i_setOff i_letLie i_trackMany i_came a_weather p1 o4 hg5) [0, 1] rfl rfl rfl (ci := 12) rfl rfl (q0 := 0) rfl hP hD hS hA hl.1 (Nat.le_of_ble_eq_true rfl) rfl dX12_falls_18 (fun H locs hP hD hS => ?_)
    have hP : va_P E.1 classes (WX12_falls E q0 q0_now q0_hold q0_below q0_hay q0_weather q0_text q0_row q0_comes q0_rule q0_owedBy q0_undos q0_aside q0_acts q0_ring q0_bestRing q0_nets q0_worked q0_then q0_plan q0_bestPlan q0_tried q0_tracks q0_kept q0_isKept q0_keptCame i_houses i_weatherMany i_typed i_rowMany 0 x_read i_length i_top i_at i_wrong i_ruleSize i_isAsked i_askedInches i_askedPath i_askedDay i_askedRoof i_askedBelow i_askedLoose i_slidesMany i_owedNow i_slidInto i_undoMany i_bestLength i_setOff i_letLie i_trackMany i_came a_weather) H := hP
    have hD : va_D A (WX12_falls E q0 q0_now q0_hold q0_below q0_hay q0_weather q0_text q0_row q0_comes q0_rule q0_owedBy q0_undos q0_aside q0_acts q0_ring q0_bestRing q0_nets q0_worked q0_then q0_plan q0_bestPlan q0_tried q0_tracks q0_kept q0_isKept q0_keptCame i_houses i_weatherMany i_typed i_rowMany 0 x_read i_length i_top i_at i_wrong i_ruleSize i_isAsked i_askedInches i_askedPath i_askedDay i_askedRoof i_askedBelow i_askedLoose i_slidesMany i_owedNow i_slidInto i_undoMany i_bestLength i_setOff i_letLie i_trackMany i_came a_weather) := hD
    refine lv_goto (tgt := 26) hx hb dX12_falls_21 (by decide) ?_
    have hj0 := Option.some.inj hf
    obtain ⟨ha0, hj1⟩ := Prod.mk.inj hj0
    subst ha0
    subst hj1
    exact hret _ _ _ _ dX12_falls_26 rfl hP hD hS
theorem q1347 : Cond.fieldLink RX12 190 "SnowForSummerModel" "askedInches" "I" ∈ Tg := Tg_mem 1347 (by decide +kernel) (by decide +kernel)
theorem gf_RX12_190 {p : Program} {l : Launch} {e : Env} {R : Room} {s : State} {m : MethodId} {args : Array Value} {below : List Frame} {meth : Method} {c : Code} {H : Heap} {locs : List Loc} {cells slots : Nat} {Q : State → Prop} {E : ENV} {cc : ByteArray} {n : Nat} {r : Option FieldType} {pc : Nat} {ls : Array Slot} {rest : List Value} {a : Nat} {ws : va_W} {nm ds : String} {fs : List Value} {A : Nat → Prop} {v : Value} (C : Cx E A ⟨RX12, nm, ds⟩ cc n r p s m args meth c) (hP : va_P E.1 classes ws H) (q0 : Nat) (he : ws[q0]? = some (a, .inr (12, fs))) (hv : fs[21]? = some v) (hdg : decode cc pc = .ok (.getfield 190, 3))
    (kk : W p l e R s m args below meth c H locs cells slots Q (F0 m (pc + 3) ls (v :: rest))) : W p l e R s m args below meth c H locs cells slots Q (F0 m pc ls (.ref a :: rest)) :=
  va_get (C := RX12) (T := TX12) (N := 52) (Ts := wl ⟨RX12, nm, ds⟩ cc n r) C.1 C.2.1 C.2.2.2.2.1 (fun w h => List.mem_cons_of_mem _ (inT12 w h)) C.2.2.2.1 C.2.2.2.2.2.1 hP q0 he rfl 21 (by decide) (C.2.2.2.2.1 _ (List.mem_cons_of_mem _ q1347)) (fun _ h9 => h9) hv hdg kk
theorem q1351 : Cond.fieldLink RX12 208 "SnowForSummerModel" "askedBelow" "I" ∈ Tg := Tg_mem 1351 (by decide +kernel) (by decide +kernel)
theorem gf_RX12_208 {p : Program} {l : Launch} {e : Env} {R : Room} {s : State} {m : MethodId} {args : Array Value} {below : List Frame} {meth : Method} {c : Code} {H : Heap} {locs : List Loc} {cells slots : Nat} {Q : State → Prop} {E : ENV} {cc : ByteArray} {n : Nat} {r : Option FieldType} {pc : Nat} {ls : Array Slot} {rest : List Value} {a : Nat} {ws : va_W} {nm ds : String} {fs : List Value} {A : Nat → Prop} {v : Value} (C : Cx E A ⟨RX12, nm, ds⟩ cc n r p s m args meth c) (hP : va_P E.1 classes ws H) (q0 : Nat) (he : ws[q0]? = some (a, .inr (12, fs))) (hv : fs[25]? = some v) (hdg : decode cc pc = .ok (.getfield 208, 3))
    (kk : W p l e R s m args below meth c H locs cells slots Q (F0 m (pc + 3) ls (v :: rest))) : W p l e R s m args below meth c H locs cells slots Q (F0 m pc ls (.ref a :: rest)) :=
  va_get (C := RX12) (T := TX12) (N := 52) (Ts := wl ⟨RX12, nm, ds⟩ cc n r) C.1 C.2.1 C.2.2.2.2.1 (fun w h => List.mem_cons_of_mem _ (inT12 w h)) C.2.2.2.1 C.2.2.2.2.2.1 hP q0 he rfl 25 (by decide) (C.2.2.2.2.1 _ (List.mem_cons_of_mem _ q1351)) (fun _ h9 => h9) hv hdg kk
theorem q1350 : Cond.fieldLink RX12 202 "SnowForSummerModel" "askedRoof" "I" ∈ Tg := Tg_mem 1350 (by decide +kernel) (by decide +kernel)
theorem gf_RX12_202 {p : Program} {l : Launch} {e : Env} {R : Room} {s : State} {m : MethodId} {args : Array Value} {below : List Frame} {meth : Method} {c : Code} {H : Heap} {locs : List Loc} {cells slots : Nat} {Q : State → Prop} {E : ENV} {cc : ByteArray} {n : Nat} {r : Option FieldType} {pc : Nat} {ls : Array Slot} {rest : List Value} {a : Nat} {ws : va_W} {nm ds : String} {fs : List Value} {A : Nat → Prop} {v : Value} (C : Cx E A ⟨RX12, nm, ds⟩ cc n r p s m args meth c) (hP : va_P E.1 classes ws H) (q0 : Nat) (he : ws[q0]? = some (a, .inr (12, fs))) (hv : fs[24]? = some v) (hdg : decode cc pc = .ok (.getfield 202, 3))
    (kk : W p l e R s m args below meth c H locs cells slots Q (F0 m (pc + 3) ls (v :: rest))) : W p l e R s m args below meth c H locs cells slots Q (F0 m pc ls (.ref a :: rest)) :=
  va_get (C := RX12) (T := TX12) (N := 52) (Ts := wl ⟨RX12, nm, ds⟩ cc n r) C.1 C.2.1 C.2.2.2.2.1 (fun w h => List.mem_cons_of_mem _ (inT12 w h)) C.2.2.2.1 C.2.2.2.2.2.1 hP q0 he rfl 24 (by decide) (C.2.2.2.2.1 _ (List.mem_cons_of_mem _ q1350)) (fun _ h9 => h9) hv hdg kk
theorem q1349 : Cond.fieldLink RX12 196 "SnowForSummerModel" "askedDay" "I" ∈ Tg := Tg_mem 1349 (by decide +kernel) (by decide +kernel)
theorem gf_RX12_196 {p : Program} {l : Launch} {e : Env} {R : Room} {s : State} {m : MethodId} {args : Array Value} {below : List Frame} {meth : Method} {c : Code} {H : Heap} {locs : List Loc} {cells slots : Nat} {Q : State → Prop} {E : ENV} {cc : ByteArray} {n : Nat} {r : Option FieldType} {pc : Nat} {ls : Array Slot} {rest : List Value} {a : Nat} {ws : va_W} {nm ds : String} {fs : List Value} {A : Nat → Prop} {v : Value} (C : Cx E A ⟨RX12, nm, ds⟩ cc n r p s m args meth c) (hP : va_P E.1 classes ws H) (q0 : Nat) (he : ws[q0]? = some (a, .inr (12, fs))) (hv : fs[23]? = some v) (hdg : decode cc pc = .ok (.getfield 196, 3))
    (kk : W p l e R s m args below meth c H locs cells slots Q (F0 m (pc + 3) ls (v :: rest))) : W p l e R s m args below meth c H locs cells slots Q (F0 m pc ls (.ref a :: rest)) :=
  va_get (C := RX12) (T := TX12) (N := 52) (Ts := wl ⟨RX12, nm, ds⟩ cc n r) C.1 C.2.1 C.2.2.2.2.1 (fun w h => List.mem_cons_of_mem _ (inT12 w h)) C.2.2.2.1 C.2.2.2.2.2.1 hP q0 he rfl 23 (by decide) (C.2.2.2.2.1 _ (List.mem_cons_of_mem _ q1349)) (fun _ h9 => h9) hv hdg kk
theorem q1348 : Cond.fieldLink RX12 193 "SnowForSummerModel" "askedPath" "I" ∈ Tg := Tg_mem 1348 (by decide +kernel) (by decide +kernel)
theorem gf_RX12_193 {p : Program} {l : Launch} {e : Env} {R : Room} {s : State} {m : MethodId} {args : Array Value} {below : List Frame} {meth : Method} {c : Code} {H : Heap} {locs : List Loc} {cells slots : Nat} {Q : State → Prop} {E : ENV} {cc : ByteArray} {n : Nat} {r : Option FieldType} {pc : Nat} {ls : Array Slot} {rest : List Value} {a : Nat} {ws : va_W} {nm ds : String} {fs : List Value} {A : Nat → Prop} {v : Value} (C : Cx E A ⟨RX12, nm, ds⟩ cc n r p s m args meth c) (hP : va_P E.1 classes ws H) (q0 : Nat) (he : ws[q0]? = some (a, .inr (12, fs))) (hv : fs[22]? = some v) (hdg : decode cc pc = .ok (.getfield 193, 3))
    (kk : W p l e R s m args below meth c H locs cells slots Q (F0 m (pc + 3) ls (v :: rest))) : W p l e R s m args below meth c H locs cells slots Q (F0 m pc ls (.ref a :: rest)) :=
  va_get (C := RX12) (T := TX12) (N := 52) (Ts := wl ⟨RX12, nm, ds⟩ cc n r) C.1 C.2.1 C.2.2.2.2.1 (fun w h => List.mem_cons_of_mem _ (inT12 w h)) C.2.2.2.1 C.2.2.2.2.2.1 hP q0 he rfl 22 (by decide) (C.2.2.2.2.1 _ (List.mem_cons_of_mem _ q1348)) (fun _ h9 => h9) hv hdg kk
theorem K_RX12_199 : KV RX12 199 yX12_thawOf cX12_thawOf 2 (some .int) 1 := ⟨Tg_mem 1575 (by decide +kernel) (by decide +kernel), Tg_mem 102 (by decide +kernel) (by decide +kernel), Tg_mem 1572 (by decide +kernel) (by decide +kernel), Tg_mem 1574 (by decide +kernel) (by decide +kernel), Tg_mem 54 (by decide +kernel) (by decide +kernel), by decide +kernel⟩
theorem q1352 : Cond.fieldLink RX12 205 "SnowForSummerModel" "askedLoose" "I" ∈ Tg := Tg_mem 1352 (by decide +kernel) (by decide +kernel)
theorem gf_RX12_205 {p : Program} {l : Launch} {e : Env} {R : Room} {s : State} {m : MethodId} {args : Array Value} {below : List Frame} {meth : Method} {c : Code} {H : Heap} {locs : List Loc} {cells slots : Nat} {Q : State → Prop} {E : ENV} {cc : ByteArray} {n : Nat} {r : Option FieldType} {pc : Nat} {ls : Array Slot} {rest : List Value} {a : Nat} {ws : va_W} {nm ds : String} {fs : List Value} {A : Nat → Prop} {v : Value} (C : Cx E A ⟨RX12, nm, ds⟩ cc n r p s m args meth c) (hP : va_P E.1 classes ws H) (q0 : Nat) (he : ws[q0]? = some (a, .inr (12, fs))) (hv : fs[26]? = some v) (hdg : decode cc pc = .ok (.getfield 205, 3))
    (kk : W p l e R s m args below meth c H locs cells slots Q (F0 m (pc + 3) ls (v :: rest))) : W p l e R s m args below meth c H locs cells slots Q (F0 m pc ls (.ref a :: rest)) :=
  va_get (C := RX12) (T := TX12) (N := 52) (Ts := wl ⟨RX12, nm, ds⟩ cc n r) C.1 C.2.1 C.2.2.2.2.1 (fun w h => List.mem_cons_of_mem _ (inT12 w h)) C.2.2.2.1 C.2.2.2.2.2.1 hP q0 he rfl 26 (by decide) (C.2.2.2.2.1 _ (List.mem_cons_of_mem _ q1352)) (fun _ h9 => h9) hv hdg kk
theorem dX12_letter_0 : decode cX12_letter 0 = .ok (.iload_n 1, 1) := by decide +kernel
theorem dX12_letter_1 : decode cX12_letter 1 = .ok (.tableswitch 143 100 120 #[99, 143, 143, 143, 138, 143, 143, 143, 143, 143, 128, 118, 104, 143, 143, 143, 109, 143, 143, 143, 133], 99) := by decide +kernel
theorem dX12_letter_100 : decode cX12_letter 100 = .ok (.aload_n 0, 1) := by decide +kernel
theorem dX12_letter_101 : decode cX12_letter 101 = .ok (.getfield 190, 3) := by decide +kernel
theorem dX12_letter_104 : decode cX12_letter 104 = .ok (.ireturn, 1) := by decide +kernel
theorem dX12_letter_105 : decode cX12_letter 105 = .ok (.aload_n 0, 1) := by decide +kernel
theorem dX12_letter_106 : decode cX12_letter 106 = .ok (.getfield 193, 3) := by decide +kernel
theorem dX12_letter_109 : decode cX12_letter 109 = .ok (.ireturn, 1) := by decide +kernel
theorem dX12_letter_110 : decode cX12_letter 110 = .ok (.aload_n 0, 1) := by decide +kernel
theorem dX12_letter_111 : decode cX12_letter 111 = .ok (.aload_n 0, 1) := by decide +kernel
theorem dX12_letter_112 : decode cX12_letter 112 = .ok (.getfield 196, 3) := by decide +kernel
theorem dX12_letter_115 : decode cX12_letter 115 = .ok (.invokevirtual 199, 3) := by decide +kernel
theorem dX12_letter_118 : decode cX12_letter 118 = .ok (.ireturn, 1) := by decide +kernel
theorem dX12_letter_119 : decode cX12_letter 119 = .ok (.aload_n 0, 1) := by decide +kernel
theorem dX12_letter_120 : decode cX12_letter 120 = .ok (.getfield 13, 3) := by decide +kernel
theorem dX12_letter_123 : decode cX12_letter 123 = .ok (.aload_n 0, 1) := by decide +kernel
theorem dX12_letter_124 : decode cX12_letter 124 = .ok (.getfield 202, 3) := by decide +kernel
theorem dX12_letter_127 : decode cX12_letter 127 = .ok (.iaload, 1) := by decide +kernel
theorem dX12_letter_128 : decode cX12_letter 128 = .ok (.ireturn, 1) := by decide +kernel
theorem dX12_letter_129 : decode cX12_letter 129 = .ok (.aload_n 0, 1) := by decide +kernel
theorem dX12_letter_130 : decode cX12_letter 130 = .ok (.getfield 196, 3) := by decide +kernel
theorem dX12_letter_133 : decode cX12_letter 133 = .ok (.ireturn, 1) := by decide +kernel
theorem dX12_letter_134 : decode cX12_letter 134 = .ok (.aload_n 0, 1) := by decide +kernel
theorem dX12_letter_135 : decode cX12_letter 135 = .ok (.getfield 205, 3) := by decide +kernel
theorem dX12_letter_138 : decode cX12_letter 138 = .ok (.ireturn, 1) := by decide +kernel
theorem dX12_letter_139 : decode cX12_letter 139 = .ok (.aload_n 0, 1) := by decide +kernel
theorem dX12_letter_140 : decode cX12_letter 140 = .ok (.getfield 202, 3) := by decide +kernel
theorem dX12_letter_143 : decode cX12_letter 143 = .ok (.ireturn, 1) := by decide +kernel
theorem dX12_letter_144 : decode cX12_letter 144 = .ok (.aload_n 0, 1) := by decide +kernel
theorem dX12_letter_145 : decode cX12_letter 145 = .ok (.getfield 208, 3) := by decide +kernel
theorem dX12_letter_148 : decode cX12_letter 148 = .ok (.ireturn, 1) := by decide +kernel
def WX12_letter (E : ENV) (q0 : Nat) (q0_now : Nat) (q0_hold : Nat) (q0_below : Nat) (q0_hay : Nat) (q0_weather : Nat) (q0_text : Nat) (q0_row : Nat) (q0_comes : Nat) (q0_rule : Nat) (q0_owedBy : Nat) (q0_undos : Nat) (q0_aside : Nat) (q0_acts : Nat) (q0_ring : Nat) (q0_bestRing : Nat) (q0_nets : Nat) (q0_worked : Nat) (q0_then : Nat) (q0_plan : Nat) (q0_bestPlan : Nat) (q0_tried : Nat) (q0_tracks : Nat) (q0_kept : Nat) (q0_isKept : Nat) (q0_keptCame : Nat) (i_houses : Int32) (i_weatherMany : Int32) (i_typed : Int32) (i_rowMany : Int32) (i_thrown : Int32) (x_read : Value) (i_length : Int32) (i_top : Int32) (i_at : Int32) (i_wrong : Int32) (i_ruleSize : Int32) (i_isAsked : Int32) (i_askedInches : Int32) (i_askedPath : Int32) (i_askedDay : Int32) (i_askedRoof : Int32) (i_askedBelow : Int32) (i_askedLoose : Int32) (i_slidesMany : Int32) (i_owedNow : Int32) (i_slidInto : Int32) (i_undoMany : Int32) (i_bestLength : Int32) (i_setOff : Int32) (i_letLie : Int32) (i_trackMany : Int32) (i_came : Int32) (a_hold : Nat → Int32) (a_weather : Nat → Int32) : va_W := [(q0, .inr (12, [.ref q0_now, .int i_houses, .ref q0_hold, .ref q0_below, .ref q0_hay, .ref q0_weather, .int i_weatherMany, .ref q0_text, .int i_typed, .ref q0_row, .int i_rowMany, .int i_thrown, x_read, .int i_length, .int i_top, .int i_at, .int i_wrong, .ref q0_comes, .ref q0_rule, .int i_ruleSize, .int i_isAsked, .int i_askedInches, .int i_askedPath, .int i_askedDay, .int i_askedRoof, .int i_askedBelow, .int i_askedLoose, .int i_slidesMany, .int i_owedNow, .ref q0_owedBy, .int i_slidInto, .ref q0_undos, .int i_undoMany, .ref q0_aside, .ref q0_acts, .ref q0_ring, .ref q0_bestRing, .int i_bestLength, .ref q0_nets, .ref q0_worked, .ref q0_then, .ref q0_plan, .ref q0_bestPlan, .ref q0_tried, .int i_setOff, .int i_letLie, .ref q0_tracks, .int i_trackMany, .int i_came, .ref q0_kept, .ref q0_isKept, .ref q0_keptCame])), (q0_hold, .inl (E.2.1, 7, .inl a_hold)), (q0_weather, .inl (E.2.1, 40, .inl a_weather))]
set_option maxHeartbeats 4000000 in
set_option maxRecDepth 20000 in
theorem kX12_letter (l : Launch) (E : ENV) (q0 : Nat) (q0_now : Nat) (q0_hold : Nat) (q0_below : Nat) (q0_hay : Nat) (q0_weather : Nat) (q0_text : Nat) (q0_row : Nat) (q0_comes : Nat) (q0_rule : Nat) (q0_owedBy : Nat) (q0_undos : Nat) (q0_aside : Nat) (q0_acts : Nat) (q0_ring : Nat) (q0_bestRing : Nat) (q0_nets : Nat) (q0_worked : Nat) (q0_then : Nat) (q0_plan : Nat) (q0_bestPlan : Nat) (q0_tried : Nat) (q0_tracks : Nat) (q0_kept : Nat) (q0_isKept : Nat) (q0_keptCame : Nat) (i_houses : Int32) (i_weatherMany : Int32) (i_typed : Int32) (i_rowMany : Int32) (i_thrown : Int32) (x_read : Value) (i_length : Int32) (i_top : Int32) (i_at : Int32) (i_wrong : Int32) (i_ruleSize : Int32) (i_isAsked : Int32) (i_askedInches : Int32) (i_askedPath : Int32) (i_askedDay : Int32) (i_askedRoof : Int32) (i_askedBelow : Int32) (i_askedLoose : Int32) (i_slidesMany : Int32) (i_owedNow : Int32) (i_slidInto : Int32) (i_undoMany : Int32) (i_bestLength : Int32) (i_setOff : Int32) (i_letLie : Int32) (i_trackMany : Int32) (i_came : Int32) (a_hold : Nat → Int32) (a_weather : Nat → Int32) (p1 : Int32) (r9 : Int32) (hf : fX12_letter i_weatherMany i_askedInches i_askedPath i_askedDay i_askedRoof i_askedBelow i_askedLoose a_hold a_weather p1 = some r9) : CI l E yX12_letter cX12_letter 2 (some .int) 2 [.ref q0, .int p1] (WX12_letter E q0 q0_now q0_hold q0_below q0_hay q0_weather q0_text q0_row q0_comes q0_rule q0_owedBy q0_undos q0_aside q0_acts q0_ring q0_bestRing q0_nets q0_worked q0_then q0_plan q0_bestPlan q0_tried q0_tracks q0_kept q0_isKept q0_keptCame i_houses i_weatherMany i_typed i_rowMany i_thrown x_read i_length i_top i_at i_wrong i_ruleSize i_isAsked i_askedInches i_askedPath i_askedDay i_askedRoof i_askedBelow i_askedLoose i_slidesMany i_owedNow i_slidInto i_undoMany i_bestLength i_setOff i_letLie i_trackMany i_came a_hold a_weather) (WX12_letter E q0 q0_now q0_hold q0_below q0_hay q0_weather q0_text q0_row q0_comes q0_rule q0_owedBy q0_undos q0_aside q0_acts q0_ring q0_bestRing q0_nets q0_worked q0_then q0_plan q0_bestPlan q0_tried q0_tracks q0_kept q0_isKept q0_keptCame i_houses i_weatherMany i_typed i_rowMany i_thrown x_read i_length i_top i_at i_wrong i_ruleSize i_isAsked i_askedInches i_askedPath i_askedDay i_askedRoof i_askedBelow i_askedLoose i_slidesMany i_owedNow i_slidInto i_undoMany i_bestLength i_setOff i_letLie i_trackMany i_came a_hold a_weather) r9 := by
  refine begI (by decide +kernel) (Nat.le_of_ble_eq_true rfl) ?_
  intro p e s m args below meth c A Q C hA hret
  have hx := C.1
  have hb := C.2.1
  intro H locs ls hl hP hD hS
  have hl : lv_has ls 2 [(0, .ref q0), (1, .int p1)] := hl
  unfold fX12_letter at hf
  refine lv_iload_n hx hb dX12_letter_0 rfl (lv_at hl 1 rfl) ?_
  by_cases c1 : p1 = 100
  · rw [if_pos c1] at hf
    refine r_tsw C dX12_letter_1 100 c1 (by decide) (by decide) (off := 99) (by decide) (tgt := 100) (by decide) ?_
    refine lv_aload_n hx hb dX12_letter_100 rfl (lv_at hl 0 rfl) ?_
    refine gf_RX12_190 C hP 0 rfl rfl dX12_letter_101 ?_
    have hj0 := Option.some.inj hf
    subst hj0
    exact hret _ _ _ _ dX12_letter_104 rfl hP hD hS
  · rw [if_neg c1] at hf
    by_cases c2 : p1 = 101
    · rw [if_pos c2] at hf
      refine r_tsw C dX12_letter_1 101 c2 (by decide) (by decide) (off := 143) (by decide) (tgt := 144) (by decide) ?_
      refine lv_aload_n hx hb dX12_letter_144 rfl (lv_at hl 0 rfl) ?_
      refine gf_RX12_208 C hP 0 rfl rfl dX12_letter_145 ?_
      have hj0 := Option.some.inj hf
      subst hj0
      exact hret _ _ _ _ dX12_letter_148 rfl hP hD hS
    · rw [if_neg c2] at hf
      by_cases c3 : p1 = 102
      · rw [if_pos c3] at hf
        refine r_tsw C dX12_letter_1 102 c3 (by decide) (by decide) (off := 143) (by decide) (tgt := 144) (by decide) ?_
        refine lv_aload_n hx hb dX12_letter_144 rfl (lv_at hl 0 rfl) ?_
        refine gf_RX12_208 C hP 0 rfl rfl dX12_letter_145 ?_
        have hj0 := Option.some.inj hf
        subst hj0
        exact hret _ _ _ _ dX12_letter_148 rfl hP hD hS
      · rw [if_neg c3] at hf
        by_cases c4 : p1 = 103
        · rw [if_pos c4] at hf
          refine r_tsw C dX12_letter_1 103 c4 (by decide) (by decide) (off := 143) (by decide) (tgt := 144) (by decide) ?_
          refine lv_aload_n hx hb dX12_letter_144 rfl (lv_at hl 0 rfl) ?_
          refine gf_RX12_208 C hP 0 rfl rfl dX12_letter_145 ?_
          have hj0 := Option.some.inj hf
          subst hj0
          exact hret _ _ _ _ dX12_letter_148 rfl hP hD hS
        · rw [if_neg c4] at hf
          by_cases c5 : p1 = 104
          · rw [if_pos c5] at hf
            refine r_tsw C dX12_letter_1 104 c5 (by decide) (by decide) (off := 138) (by decide) (tgt := 139) (by decide) ?_
            refine lv_aload_n hx hb dX12_letter_139 rfl (lv_at hl 0 rfl) ?_
            refine gf_RX12_202 C hP 0 rfl rfl dX12_letter_140 ?_
            have hj0 := Option.some.inj hf
            subst hj0
            exact hret _ _ _ _ dX12_letter_143 rfl hP hD hS
          · rw [if_neg c5] at hf
            by_cases c6 : p1 = 105
            · rw [if_pos c6] at hf
              refine r_tsw C dX12_letter_1 105 c6 (by decide) (by decide) (off := 143) (by decide) (tgt := 144) (by decide) ?_
              refine lv_aload_n hx hb dX12_letter_144 rfl (lv_at hl 0 rfl) ?_
              refine gf_RX12_208 C hP 0 rfl rfl dX12_letter_145 ?_
              have hj0 := Option.some.inj hf
              subst hj0
              exact hret _ _ _ _ dX12_letter_148 rfl hP hD hS
            · rw [if_neg c6] at hf
              by_cases c7 : p1 = 106
              · rw [if_pos c7] at hf
                refine r_tsw C dX12_letter_1 106 c7 (by decide) (by decide) (off := 143) (by decide) (tgt := 144) (by decide) ?_
                refine lv_aload_n hx hb dX12_letter_144 rfl (lv_at hl 0 rfl) ?_
                refine gf_RX12_208 C hP 0 rfl rfl dX12_letter_145 ?_
                have hj0 := Option.some.inj hf
                subst hj0
                exact hret _ _ _ _ dX12_letter_148 rfl hP hD hS
              · rw [if_neg c7] at hf
                by_cases c8 : p1 = 107
                · rw [if_pos c8] at hf
                  refine r_tsw C dX12_letter_1 107 c8 (by decide) (by decide) (off := 143) (by decide) (tgt := 144) (by decide) ?_
                  refine lv_aload_n hx hb dX12_letter_144 rfl (lv_at hl 0 rfl) ?_
                  refine gf_RX12_208 C hP 0 rfl rfl dX12_letter_145 ?_
                  have hj0 := Option.some.inj hf
                  subst hj0
                  exact hret _ _ _ _ dX12_letter_148 rfl hP hD hS
                · rw [if_neg c8] at hf
                  by_cases c9 : p1 = 108
                  · rw [if_pos c9] at hf
                    refine r_tsw C dX12_letter_1 108 c9 (by decide) (by decide) (off := 143) (by decide) (tgt := 144) (by decide) ?_
                    refine lv_aload_n hx hb dX12_letter_144 rfl (lv_at hl 0 rfl) ?_
                    refine gf_RX12_208 C hP 0 rfl rfl dX12_letter_145 ?_
                    have hj0 := Option.some.inj hf
                    subst hj0
                    exact hret _ _ _ _ dX12_letter_148 rfl hP hD hS
                  · rw [if_neg c9] at hf
                    by_cases c10 : p1 = 109
                    · rw [if_pos c10] at hf
                      refine r_tsw C dX12_letter_1 109 c10 (by decide) (by decide) (off := 143) (by decide) (tgt := 144) (by decide) ?_
                      refine lv_aload_n hx hb dX12_letter_144 rfl (lv_at hl 0 rfl) ?_
                      refine gf_RX12_208 C hP 0 rfl rfl dX12_letter_145 ?_
                      have hj0 := Option.some.inj hf
                      subst hj0
                      exact hret _ _ _ _ dX12_letter_148 rfl hP hD hS
                    · rw [if_neg c10] at hf
                      by_cases c11 : p1 = 110
                      · rw [if_pos c11] at hf
                        refine r_tsw C dX12_letter_1 110 c11 (by decide) (by decide) (off := 128) (by decide) (tgt := 129) (by decide) ?_
                        refine lv_aload_n hx hb dX12_letter_129 rfl (lv_at hl 0 rfl) ?_
                        refine gf_RX12_196 C hP 0 rfl rfl dX12_letter_130 ?_
                        have hj0 := Option.some.inj hf
                        subst hj0
                        exact hret _ _ _ _ dX12_letter_133 rfl hP hD hS
                      · rw [if_neg c11] at hf
                        by_cases c12 : p1 = 111
                        · rw [if_pos c12] at hf
                          refine r_tsw C dX12_letter_1 111 c12 (by decide) (by decide) (off := 118) (by decide) (tgt := 119) (by decide) ?_
                          refine lv_aload_n hx hb dX12_letter_119 rfl (lv_at hl 0 rfl) ?_
                          refine gf_RX12_13 C hP 0 rfl rfl dX12_letter_120 ?_
                          refine lv_aload_n hx hb dX12_letter_123 rfl (lv_at hl 0 rfl) ?_
                          refine gf_RX12_202 C hP 0 rfl rfl dX12_letter_124 ?_
                          obtain ⟨g13, hf⟩ := gd_some hf
                          refine va_iald hx hb C.2.2.2.2.2.1 hP 1 0 rfl rfl (vin_in g13) dX12_letter_127 ?_
                          have hj0 := Option.some.inj hf
                          subst hj0
                          exact hret _ _ _ _ dX12_letter_128 rfl hP hD hS
                        · rw [if_neg c12] at hf
                          by_cases c14 : p1 = 112
                          · rw [if_pos c14] at hf
                            refine r_tsw C dX12_letter_1 112 c14 (by decide) (by decide) (off := 104) (by decide) (tgt := 105) (by decide) ?_
                            refine lv_aload_n hx hb dX12_letter_105 rfl (lv_at hl 0 rfl) ?_
                            refine gf_RX12_193 C hP 0 rfl rfl dX12_letter_106 ?_
                            have hj0 := Option.some.inj hf
                            subst hj0
                            exact hret _ _ _ _ dX12_letter_109 rfl hP hD hS
                          · rw [if_neg c14] at hf
                            by_cases c15 : p1 = 113
                            · rw [if_pos c15] at hf
                              refine r_tsw C dX12_letter_1 113 c15 (by decide) (by decide) (off := 143) (by decide) (tgt := 144) (by decide) ?_
                              refine lv_aload_n hx hb dX12_letter_144 rfl (lv_at hl 0 rfl) ?_
                              refine gf_RX12_208 C hP 0 rfl rfl dX12_letter_145 ?_
                              have hj0 := Option.some.inj hf
                              subst hj0
                              exact hret _ _ _ _ dX12_letter_148 rfl hP hD hS
                            · rw [if_neg c15] at hf
                              by_cases c16 : p1 = 114
                              · rw [if_pos c16] at hf
                                refine r_tsw C dX12_letter_1 114 c16 (by decide) (by decide) (off := 143) (by decide) (tgt := 144) (by decide) ?_
                                refine lv_aload_n hx hb dX12_letter_144 rfl (lv_at hl 0 rfl) ?_
                                refine gf_RX12_208 C hP 0 rfl rfl dX12_letter_145 ?_
                                have hj0 := Option.some.inj hf
                                subst hj0
                                exact hret _ _ _ _ dX12_letter_148 rfl hP hD hS
                              · rw [if_neg c16] at hf
                                by_cases c17 : p1 = 115
                                · rw [if_pos c17] at hf
                                  refine r_tsw C dX12_letter_1 115 c17 (by decide) (by decide) (off := 143) (by decide) (tgt := 144) (by decide) ?_
                                  refine lv_aload_n hx hb dX12_letter_144 rfl (lv_at hl 0 rfl) ?_
                                  refine gf_RX12_208 C hP 0 rfl rfl dX12_letter_145 ?_
                                  have hj0 := Option.some.inj hf
                                  subst hj0
                                  exact hret _ _ _ _ dX12_letter_148 rfl hP hD hS
                                · rw [if_neg c17] at hf
                                  by_cases c18 : p1 = 116
                                  · rw [if_pos c18] at hf
                                    refine r_tsw C dX12_letter_1 116 c18 (by decide) (by decide) (off := 109) (by decide) (tgt := 110) (by decide) ?_
                                    refine lv_aload_n hx hb dX12_letter_110 rfl (lv_at hl 0 rfl) ?_
                                    refine lv_aload_n hx hb dX12_letter_111 rfl (lv_at hl 0 rfl) ?_
                                    refine gf_RX12_196 C hP 0 rfl rfl dX12_letter_112 ?_
                                    obtain ⟨o19, hg20, hf⟩ := bd_some hf
                                    refine k_VI (As := [.int i_askedDay]) C K_RX12_199 (Nat.le_of_ble_eq_true rfl) (Nat.le_of_ble_eq_true rfl) (kX12_thawOf l E q0 q0_now q0_hold q0_below q0_hay q0_weather q0_text q0_row q0_comes q0_rule q0_owedBy q0_undos q0_aside q0_acts q0_ring q0_bestRing q0_nets q0_worked q0_then q0_plan q0_bestPlan q0_tried q0_tracks q0_kept q0_isKept q0_keptCame i_houses i_weatherMany i_typed i_rowMany i_thrown x_read i_length i_top i_at i_wrong i_ruleSize i_isAsked i_askedInches i_askedPath i_askedDay i_askedRoof i_askedBelow i_askedLoose i_slidesMany i_owedNow i_slidInto i_undoMany i_bestLength i_setOff i_letLie i_trackMany i_came a_weather i_askedDay o19 hg20) [0, 2] rfl rfl rfl (ci := 12) rfl rfl (q0 := 0) rfl hP hD hS hA hl.1 (Nat.le_of_ble_eq_true rfl) rfl dX12_letter_115 (fun H locs hP hD hS => ?_)
                                    have hP : va_P E.1 classes (WX12_letter E q0 q0_now q0_hold q0_below q0_hay q0_weather q0_text q0_row q0_comes q0_rule q0_owedBy q0_undos q0_aside q0_acts q0_ring q0_bestRing q0_nets q0_worked q0_then q0_plan q0_bestPlan q0_tried q0_tracks q0_kept q0_isKept q0_keptCame i_houses i_weatherMany i_typed i_rowMany i_thrown x_read i_length i_top i_at i_wrong i_ruleSize i_isAsked i_askedInches i_askedPath i_askedDay i_askedRoof i_askedBelow i_askedLoose i_slidesMany i_owedNow i_slidInto i_undoMany i_bestLength i_setOff i_letLie i_trackMany i_came a_hold a_weather) H := hP
                                    have hD : va_D A (WX12_letter E q0 q0_now q0_hold q0_below q0_hay q0_weather q0_text q0_row q0_comes q0_rule q0_owedBy q0_undos q0_aside q0_acts q0_ring q0_bestRing q0_nets q0_worked q0_then q0_plan q0_bestPlan q0_tried q0_tracks q0_kept q0_isKept q0_keptCame i_houses i_weatherMany i_typed i_rowMany i_thrown x_read i_length i_top i_at i_wrong i_ruleSize i_isAsked i_askedInches i_askedPath i_askedDay i_askedRoof i_askedBelow i_askedLoose i_slidesMany i_owedNow i_slidInto i_undoMany i_bestLength i_setOff i_letLie i_trackMany i_came a_hold a_weather) := hD
                                    have hj0 := Option.some.inj hf
                                    subst hj0
                                    exact hret _ _ _ _ dX12_letter_118 rfl hP hD hS
                                  · rw [if_neg c18] at hf
                                    by_cases c21 : p1 = 117
                                    · rw [if_pos c21] at hf
                                      refine r_tsw C dX12_letter_1 117 c21 (by decide) (by decide) (off := 143) (by decide) (tgt := 144) (by decide) ?_
                                      refine lv_aload_n hx hb dX12_letter_144 rfl (lv_at hl 0 rfl) ?_
                                      refine gf_RX12_208 C hP 0 rfl rfl dX12_letter_145 ?_
                                      have hj0 := Option.some.inj hf
                                      subst hj0
                                      exact hret _ _ _ _ dX12_letter_148 rfl hP hD hS
                                    · rw [if_neg c21] at hf
                                      by_cases c22 : p1 = 118
                                      · rw [if_pos c22] at hf
                                        refine r_tsw C dX12_letter_1 118 c22 (by decide) (by decide) (off := 143) (by decide) (tgt := 144) (by decide) ?_
                                        refine lv_aload_n hx hb dX12_letter_144 rfl (lv_at hl 0 rfl) ?_
                                        refine gf_RX12_208 C hP 0 rfl rfl dX12_letter_145 ?_
                                        have hj0 := Option.some.inj hf
                                        subst hj0
                                        exact hret _ _ _ _ dX12_letter_148 rfl hP hD hS
                                      · rw [if_neg c22] at hf
                                        by_cases c23 : p1 = 119
                                        · rw [if_pos c23] at hf
                                          refine r_tsw C dX12_letter_1 119 c23 (by decide) (by decide) (off := 143) (by decide) (tgt := 144) (by decide) ?_
                                          refine lv_aload_n hx hb dX12_letter_144 rfl (lv_at hl 0 rfl) ?_
                                          refine gf_RX12_208 C hP 0 rfl rfl dX12_letter_145 ?_
                                          have hj0 := Option.some.inj hf
                                          subst hj0
                                          exact hret _ _ _ _ dX12_letter_148 rfl hP hD hS
                                        · rw [if_neg c23] at hf
                                          by_cases c24 : p1 = 120
                                          · rw [if_pos c24] at hf
                                            refine r_tsw C dX12_letter_1 120 c24 (by decide) (by decide) (off := 133) (by decide) (tgt := 134) (by decide) ?_
                                            refine lv_aload_n hx hb dX12_letter_134 rfl (lv_at hl 0 rfl) ?_
                                            refine gf_RX12_205 C hP 0 rfl rfl dX12_letter_135 ?_
                                            have hj0 := Option.some.inj hf
                                            subst hj0
                                            exact hret _ _ _ _ dX12_letter_138 rfl hP hD hS
                                          · rw [if_neg c24] at hf
                                            have hc1 : ¬ (p1 : Int32).toInt = 100 := toInt_ne c1
                                            have hc2 : ¬ (p1 : Int32).toInt = 101 := toInt_ne c2
                                            have hc3 : ¬ (p1 : Int32).toInt = 102 := toInt_ne c3
                                            have hc4 : ¬ (p1 : Int32).toInt = 103 := toInt_ne c4
                                            have hc5 : ¬ (p1 : Int32).toInt = 104 := toInt_ne c5
                                            have hc6 : ¬ (p1 : Int32).toInt = 105 := toInt_ne c6
                                            have hc7 : ¬ (p1 : Int32).toInt = 106 := toInt_ne c7
                                            have hc8 : ¬ (p1 : Int32).toInt = 107 := toInt_ne c8
                                            have hc9 : ¬ (p1 : Int32).toInt = 108 := toInt_ne c9
                                            have hc10 : ¬ (p1 : Int32).toInt = 109 := toInt_ne c10
                                            have hc11 : ¬ (p1 : Int32).toInt = 110 := toInt_ne c11
                                            have hc12 : ¬ (p1 : Int32).toInt = 111 := toInt_ne c12
                                            have hc14 : ¬ (p1 : Int32).toInt = 112 := toInt_ne c14
                                            have hc15 : ¬ (p1 : Int32).toInt = 113 := toInt_ne c15
                                            have hc16 : ¬ (p1 : Int32).toInt = 114 := toInt_ne c16
                                            have hc17 : ¬ (p1 : Int32).toInt = 115 := toInt_ne c17
                                            have hc18 : ¬ (p1 : Int32).toInt = 116 := toInt_ne c18
                                            have hc21 : ¬ (p1 : Int32).toInt = 117 := toInt_ne c21
                                            have hc22 : ¬ (p1 : Int32).toInt = 118 := toInt_ne c22
                                            have hc23 : ¬ (p1 : Int32).toInt = 119 := toInt_ne c23
                                            have hc24 : ¬ (p1 : Int32).toInt = 120 := toInt_ne c24
                                            refine lv_tableOut hx hb dX12_letter_1 (by omega) (tgt := 144) (by decide) ?_
                                            refine lv_aload_n hx hb dX12_letter_144 rfl (lv_at hl 0 rfl) ?_
                                            refine gf_RX12_208 C hP 0 rfl rfl dX12_letter_145 ?_
                                            have hj0 := Option.some.inj hf
                                            subst hj0
                                            exact hret _ _ _ _ dX12_letter_148 rfl hP hD hS
theorem K_RX12_171 : KV RX12 171 yX12_sum cX12_sum 5 (some .int) 1 := ⟨Tg_mem 1559 (by decide +kernel) (by decide +kernel), Tg_mem 102 (by decide +kernel) (by decide +kernel), Tg_mem 1556 (by decide +kernel) (by decide +kernel), Tg_mem 1558 (by decide +kernel) (by decide +kernel), Tg_mem 50 (by decide +kernel) (by decide +kernel), by decide +kernel⟩
theorem dX12_held_0 : decode cX12_held 0 = .ok (.aload_n 0, 1) := by decide +kernel
theorem dX12_held_1 : decode cX12_held 1 = .ok (.iload_n 1, 1) := by decide +kernel
theorem dX12_held_2 : decode cX12_held 2 = .ok (.invokevirtual 171, 3) := by decide +kernel
theorem dX12_held_5 : decode cX12_held 5 = .ok (.istore_n 2, 1) := by decide +kernel
theorem dX12_held_6 : decode cX12_held 6 = .ok (.aload_n 0, 1) := by decide +kernel
theorem dX12_held_7 : decode cX12_held 7 = .ok (.bipush 60, 2) := by decide +kernel
theorem dX12_held_9 : decode cX12_held 9 = .ok (.invokevirtual 131, 3) := by decide +kernel
theorem dX12_held_12 : decode cX12_held 12 = .ok (.ifCond .eq 18, 3) := by decide +kernel
theorem dX12_held_15 : decode cX12_held 15 = .ok (.iload_n 2, 1) := by decide +kernel
theorem dX12_held_16 : decode cX12_held 16 = .ok (.aload_n 0, 1) := by decide +kernel
theorem dX12_held_17 : decode cX12_held 17 = .ok (.iload_n 1, 1) := by decide +kernel
theorem dX12_held_18 : decode cX12_held 18 = .ok (.invokevirtual 171, 3) := by decide +kernel
theorem dX12_held_21 : decode cX12_held 21 = .ok (.if_icmp .ge 7, 3) := by decide +kernel
theorem dX12_held_24 : decode cX12_held 24 = .ok (.iconst 1, 1) := by decide +kernel
theorem dX12_held_25 : decode cX12_held 25 = .ok (.goto 4, 3) := by decide +kernel
theorem dX12_held_28 : decode cX12_held 28 = .ok (.iconst 0, 1) := by decide +kernel
theorem dX12_held_29 : decode cX12_held 29 = .ok (.ireturn, 1) := by decide +kernel
theorem dX12_held_30 : decode cX12_held 30 = .ok (.aload_n 0, 1) := by decide +kernel
theorem dX12_held_31 : decode cX12_held 31 = .ok (.bipush 62, 2) := by decide +kernel
theorem dX12_held_33 : decode cX12_held 33 = .ok (.invokevirtual 131, 3) := by decide +kernel
theorem dX12_held_36 : decode cX12_held 36 = .ok (.ifCond .eq 18, 3) := by decide +kernel
theorem dX12_held_39 : decode cX12_held 39 = .ok (.iload_n 2, 1) := by decide +kernel
theorem dX12_held_40 : decode cX12_held 40 = .ok (.aload_n 0, 1) := by decide +kernel
theorem dX12_held_41 : decode cX12_held 41 = .ok (.iload_n 1, 1) := by decide +kernel
theorem dX12_held_42 : decode cX12_held 42 = .ok (.invokevirtual 171, 3) := by decide +kernel
theorem dX12_held_45 : decode cX12_held 45 = .ok (.if_icmp .le 7, 3) := by decide +kernel
theorem dX12_held_48 : decode cX12_held 48 = .ok (.iconst 1, 1) := by decide +kernel
theorem dX12_held_49 : decode cX12_held 49 = .ok (.goto 4, 3) := by decide +kernel
theorem dX12_held_52 : decode cX12_held 52 = .ok (.iconst 0, 1) := by decide +kernel
theorem dX12_held_53 : decode cX12_held 53 = .ok (.ireturn, 1) := by decide +kernel
theorem dX12_held_54 : decode cX12_held 54 = .ok (.aload_n 0, 1) := by decide +kernel
theorem dX12_held_55 : decode cX12_held 55 = .ok (.bipush 61, 2) := by decide +kernel
theorem dX12_held_57 : decode cX12_held 57 = .ok (.invokevirtual 131, 3) := by decide +kernel
theorem dX12_held_60 : decode cX12_held 60 = .ok (.ifCond .eq 18, 3) := by decide +kernel
theorem dX12_held_63 : decode cX12_held 63 = .ok (.iload_n 2, 1) := by decide +kernel
theorem dX12_held_64 : decode cX12_held 64 = .ok (.aload_n 0, 1) := by decide +kernel
theorem dX12_held_65 : decode cX12_held 65 = .ok (.iload_n 1, 1) := by decide +kernel
theorem dX12_held_66 : decode cX12_held 66 = .ok (.invokevirtual 171, 3) := by decide +kernel
theorem dX12_held_69 : decode cX12_held 69 = .ok (.if_icmp .ne 7, 3) := by decide +kernel
theorem dX12_held_72 : decode cX12_held 72 = .ok (.iconst 1, 1) := by decide +kernel
theorem dX12_held_73 : decode cX12_held 73 = .ok (.goto 4, 3) := by decide +kernel
theorem dX12_held_76 : decode cX12_held 76 = .ok (.iconst 0, 1) := by decide +kernel
theorem dX12_held_77 : decode cX12_held 77 = .ok (.ireturn, 1) := by decide +kernel
theorem dX12_held_78 : decode cX12_held 78 = .ok (.iload_n 2, 1) := by decide +kernel
theorem dX12_held_79 : decode cX12_held 79 = .ok (.ireturn, 1) := by decide +kernel
def WX12_held (E : ENV) (q0 : Nat) (q0_now : Nat) (q0_hold : Nat) (q0_below : Nat) (q0_hay : Nat) (q0_weather : Nat) (q0_text : Nat) (q0_row : Nat) (q0_read : Nat) (q0_comes : Nat) (q0_rule : Nat) (q0_owedBy : Nat) (q0_undos : Nat) (q0_aside : Nat) (q0_acts : Nat) (q0_ring : Nat) (q0_bestRing : Nat) (q0_nets : Nat) (q0_worked : Nat) (q0_then : Nat) (q0_plan : Nat) (q0_bestPlan : Nat) (q0_tried : Nat) (q0_tracks : Nat) (q0_kept : Nat) (q0_isKept : Nat) (q0_keptCame : Nat) (n_read : Nat) (i_houses : Int32) (i_weatherMany : Int32) (i_typed : Int32) (i_rowMany : Int32) (i_thrown : Int32) (i_length : Int32) (i_top : Int32) (i_at : Int32) (i_wrong : Int32) (i_ruleSize : Int32) (i_isAsked : Int32) (i_askedInches : Int32) (i_askedPath : Int32) (i_askedDay : Int32) (i_askedRoof : Int32) (i_askedBelow : Int32) (i_askedLoose : Int32) (i_slidesMany : Int32) (i_owedNow : Int32) (i_slidInto : Int32) (i_undoMany : Int32) (i_bestLength : Int32) (i_setOff : Int32) (i_letLie : Int32) (i_trackMany : Int32) (i_came : Int32) (a_read : Nat → Int32) (a_hold : Nat → Int32) (a_weather : Nat → Int32) : va_W := [(q0, .inr (12, [.ref q0_now, .int i_houses, .ref q0_hold, .ref q0_below, .ref q0_hay, .ref q0_weather, .int i_weatherMany, .ref q0_text, .int i_typed, .ref q0_row, .int i_rowMany, .int i_thrown, .ref q0_read, .int i_length, .int i_top, .int i_at, .int i_wrong, .ref q0_comes, .ref q0_rule, .int i_ruleSize, .int i_isAsked, .int i_askedInches, .int i_askedPath, .int i_askedDay, .int i_askedRoof, .int i_askedBelow, .int i_askedLoose, .int i_slidesMany, .int i_owedNow, .ref q0_owedBy, .int i_slidInto, .ref q0_undos, .int i_undoMany, .ref q0_aside, .ref q0_acts, .ref q0_ring, .ref q0_bestRing, .int i_bestLength, .ref q0_nets, .ref q0_worked, .ref q0_then, .ref q0_plan, .ref q0_bestPlan, .ref q0_tried, .int i_setOff, .int i_letLie, .ref q0_tracks, .int i_trackMany, .int i_came, .ref q0_kept, .ref q0_isKept, .ref q0_keptCame])), (q0_read, .inl (E.2.2.1, n_read, .inl a_read)), (q0_hold, .inl (E.2.1, 7, .inl a_hold)), (q0_weather, .inl (E.2.1, 40, .inl a_weather))]
set_option maxHeartbeats 4000000 in
set_option maxRecDepth 20000 in
theorem kX12_held_B (l : Launch) (E : ENV) (d : Nat) (hd9 : 3 ≤ d) (G : Nat → Nat → Int32 → Int32 → Int32 → Int32 → Int32 → Int32 → Int32 → Int32 → Int32 → Int32 → Int32 → Int32 → (Nat → Int32) → (Nat → Int32) → (Nat → Int32) → Int32 → Option (Int32 × Int32 × Int32)) (hG1 : ∀ (q0 : Nat) (q0_now : Nat) (q0_hold : Nat) (q0_below : Nat) (q0_hay : Nat) (q0_weather : Nat) (q0_text : Nat) (q0_row : Nat) (q0_read : Nat) (q0_comes : Nat) (q0_rule : Nat) (q0_owedBy : Nat) (q0_undos : Nat) (q0_aside : Nat) (q0_acts : Nat) (q0_ring : Nat) (q0_bestRing : Nat) (q0_nets : Nat) (q0_worked : Nat) (q0_then : Nat) (q0_plan : Nat) (q0_bestPlan : Nat) (q0_tried : Nat) (q0_tracks : Nat) (q0_kept : Nat) (q0_isKept : Nat) (q0_keptCame : Nat) (n_read : Nat) (i_houses : Int32) (i_weatherMany : Int32) (i_typed : Int32) (i_rowMany : Int32) (i_thrown : Int32) (i_length : Int32) (i_top : Int32) (i_at : Int32) (i_wrong : Int32) (i_ruleSize : Int32) (i_isAsked : Int32) (i_askedInches : Int32) (i_askedPath : Int32) (i_askedDay : Int32) (i_askedRoof : Int32) (i_askedBelow : Int32) (i_askedLoose : Int32) (i_slidesMany : Int32) (i_owedNow : Int32) (i_slidInto : Int32) (i_undoMany : Int32) (i_bestLength : Int32) (i_setOff : Int32) (i_letLie : Int32) (i_trackMany : Int32) (i_came : Int32) (a_read : Nat → Int32) (a_hold : Nat → Int32) (a_weather : Nat → Int32) (p1 : Int32) (r9 : Int32) (i_at9 : Int32) (i_wrong9 : Int32), G 1 n_read i_weatherMany i_length i_top i_at i_wrong i_isAsked i_askedInches i_askedPath i_askedDay i_askedRoof i_askedBelow i_askedLoose a_read a_hold a_weather p1 = some (r9, i_at9, i_wrong9) → CI l E yX12_sum cX12_sum 5 (some .int) d [.ref q0, .int p1] (WX12_held E q0 q0_now q0_hold q0_below q0_hay q0_weather q0_text q0_row q0_read q0_comes q0_rule q0_owedBy q0_undos q0_aside q0_acts q0_ring q0_bestRing q0_nets q0_worked q0_then q0_plan q0_bestPlan q0_tried q0_tracks q0_kept q0_isKept q0_keptCame n_read i_houses i_weatherMany i_typed i_rowMany i_thrown i_length i_top i_at i_wrong i_ruleSize i_isAsked i_askedInches i_askedPath i_askedDay i_askedRoof i_askedBelow i_askedLoose i_slidesMany i_owedNow i_slidInto i_undoMany i_bestLength i_setOff i_letLie i_trackMany i_came a_read a_hold a_weather) (WX12_held E q0 q0_now q0_hold q0_below q0_hay q0_weather q0_text q0_row q0_read q0_comes q0_rule q0_owedBy q0_undos q0_aside q0_acts q0_ring q0_bestRing q0_nets q0_worked q0_then q0_plan q0_bestPlan q0_tried q0_tracks q0_kept q0_isKept q0_keptCame n_read i_houses i_weatherMany i_typed i_rowMany i_thrown i_length i_top i_at9 i_wrong9 i_ruleSize i_isAsked i_askedInches i_askedPath i_askedDay i_askedRoof i_askedBelow i_askedLoose i_slidesMany i_owedNow i_slidInto i_undoMany i_bestLength i_setOff i_letLie i_trackMany i_came a_read a_hold a_weather) r9) (q0 : Nat) (q0_now : Nat) (q0_hold : Nat) (q0_below : Nat) (q0_hay : Nat) (q0_weather : Nat) (q0_text : Nat) (q0_row : Nat) (q0_read : Nat) (q0_comes : Nat) (q0_rule : Nat) (q0_owedBy : Nat) (q0_undos : Nat) (q0_aside : Nat) (q0_acts : Nat) (q0_ring : Nat) (q0_bestRing : Nat) (q0_nets : Nat) (q0_worked : Nat) (q0_then : Nat) (q0_plan : Nat) (q0_bestPlan : Nat) (q0_tried : Nat) (q0_tracks : Nat) (q0_kept : Nat) (q0_isKept : Nat) (q0_keptCame : Nat) (n_read : Nat) (i_houses : Int32) (i_weatherMany : Int32) (i_typed : Int32) (i_rowMany : Int32) (i_thrown : Int32) (i_length : Int32) (i_top : Int32) (i_at : Int32) (i_wrong : Int32) (i_ruleSize : Int32) (i_isAsked : Int32) (i_askedInches : Int32) (i_askedPath : Int32) (i_askedDay : Int32) (i_askedRoof : Int32) (i_askedBelow : Int32) (i_askedLoose : Int32) (i_slidesMany : Int32) (i_owedNow : Int32) (i_slidInto : Int32) (i_undoMany : Int32) (i_bestLength : Int32) (i_setOff : Int32) (i_letLie : Int32) (i_trackMany : Int32) (i_came : Int32) (a_read : Nat → Int32) (a_hold : Nat → Int32) (a_weather : Nat → Int32) (p1 : Int32) (r9 : Int32) (i_at9 : Int32) (i_wrong9 : Int32) (hf : fX12_held_B G n_read i_weatherMany i_length i_top i_at i_wrong i_isAsked i_askedInches i_askedPath i_askedDay i_askedRoof i_askedBelow i_askedLoose a_read a_hold a_weather p1 = some (r9, i_at9, i_wrong9)) : CI l E yX12_held cX12_held 3 (some .int) (d + 1) [.ref q0, .int p1] (WX12_held E q0 q0_now q0_hold q0_below q0_hay q0_weather q0_text q0_row q0_read q0_comes q0_rule q0_owedBy q0_undos q0_aside q0_acts q0_ring q0_bestRing q0_nets q0_worked q0_then q0_plan q0_bestPlan q0_tried q0_tracks q0_kept q0_isKept q0_keptCame n_read i_houses i_weatherMany i_typed i_rowMany i_thrown i_length i_top i_at i_wrong i_ruleSize i_isAsked i_askedInches i_askedPath i_askedDay i_askedRoof i_askedBelow i_askedLoose i_slidesMany i_owedNow i_slidInto i_undoMany i_bestLength i_setOff i_letLie i_trackMany i_came a_read a_hold a_weather) (WX12_held E q0 q0_now q0_hold q0_below q0_hay q0_weather q0_text q0_row q0_read q0_comes q0_rule q0_owedBy q0_undos q0_aside q0_acts q0_ring q0_bestRing q0_nets q0_worked q0_then q0_plan q0_bestPlan q0_tried q0_tracks q0_kept q0_isKept q0_keptCame n_read i_houses i_weatherMany i_typed i_rowMany i_thrown i_length i_top i_at9 i_wrong9 i_ruleSize i_isAsked i_askedInches i_askedPath i_askedDay i_askedRoof i_askedBelow i_askedLoose i_slidesMany i_owedNow i_slidInto i_undoMany i_bestLength i_setOff i_letLie i_trackMany i_came a_read a_hold a_weather) r9 := by
  refine begI (by decide +kernel) (Nat.le_of_ble_eq_true rfl) ?_
  intro p e s m args below meth c A Q C hA hret
  have hx := C.1
  have hb := C.2.1
  intro H locs ls hl hP hD hS
  have hl : lv_has ls 3 [(0, .ref q0), (1, .int p1)] := hl
  unfold fX12_held_B at hf
  refine lv_aload_n hx hb dX12_held_0 rfl (lv_at hl 0 rfl) ?_
  refine lv_iload_n hx hb dX12_held_1 rfl (lv_at hl 1 rfl) ?_
  obtain ⟨o1, hg2, hf⟩ := bd_some hf
  refine k_VI (As := [.int p1]) C K_RX12_171 (Nat.lt_succ_self d) (Nat.le_of_ble_eq_true rfl) (hG1 q0 q0_now q0_hold q0_below q0_hay q0_weather q0_text q0_row q0_read q0_comes q0_rule q0_owedBy q0_undos q0_aside q0_acts q0_ring q0_bestRing q0_nets q0_worked q0_then q0_plan q0_bestPlan q0_tried q0_tracks q0_kept q0_isKept q0_keptCame n_read i_houses i_weatherMany i_typed i_rowMany i_thrown i_length i_top i_at i_wrong i_ruleSize i_isAsked i_askedInches i_askedPath i_askedDay i_askedRoof i_askedBelow i_askedLoose i_slidesMany i_owedNow i_slidInto i_undoMany i_bestLength i_setOff i_letLie i_trackMany i_came a_read a_hold a_weather p1 o1.1 o1.2.1 o1.2.2 hg2) [0, 1, 2, 3] rfl rfl rfl (ci := 12) rfl rfl (q0 := 0) rfl hP hD hS hA hl.1 (Nat.le_of_ble_eq_true rfl) rfl dX12_held_2 (fun H locs hP hD hS => ?_)
  have hP : va_P E.1 classes (WX12_held E q0 q0_now q0_hold q0_below q0_hay q0_weather q0_text q0_row q0_read q0_comes q0_rule q0_owedBy q0_undos q0_aside q0_acts q0_ring q0_bestRing q0_nets q0_worked q0_then q0_plan q0_bestPlan q0_tried q0_tracks q0_kept q0_isKept q0_keptCame n_read i_houses i_weatherMany i_typed i_rowMany i_thrown i_length i_top o1.2.1 o1.2.2 i_ruleSize i_isAsked i_askedInches i_askedPath i_askedDay i_askedRoof i_askedBelow i_askedLoose i_slidesMany i_owedNow i_slidInto i_undoMany i_bestLength i_setOff i_letLie i_trackMany i_came a_read a_hold a_weather) H := hP
  have hD : va_D A (WX12_held E q0 q0_now q0_hold q0_below q0_hay q0_weather q0_text q0_row q0_read q0_comes q0_rule q0_owedBy q0_undos q0_aside q0_acts q0_ring q0_bestRing q0_nets q0_worked q0_then q0_plan q0_bestPlan q0_tried q0_tracks q0_kept q0_isKept q0_keptCame n_read i_houses i_weatherMany i_typed i_rowMany i_thrown i_length i_top o1.2.1 o1.2.2 i_ruleSize i_isAsked i_askedInches i_askedPath i_askedDay i_askedRoof i_askedBelow i_askedLoose i_slidesMany i_owedNow i_slidInto i_undoMany i_bestLength i_setOff i_letLie i_trackMany i_came a_read a_hold a_weather) := hD
  refine lv_istore_n (lv' := [(2, .int o1.1), (0, .ref q0), (1, .int p1)]) hx hb dX12_held_5 rfl hl (by decide) rfl (fun ls hl => ?_)
  refine lv_aload_n hx hb dX12_held_6 rfl (lv_at hl 1 rfl) ?_
  refine lv_bipush (v := 60) hx hb dX12_held_7 (by decide) ?_
  obtain ⟨o3, hg4, hf⟩ := bd_some hf
  refine k_VI (As := [.int 60]) C K_RX12_131 (by omega) (Nat.le_of_ble_eq_true rfl) (kX12_passes l E q0 q0_now q0_hold q0_below q0_hay q0_weather q0_text q0_row q0_read q0_comes q0_rule q0_owedBy q0_undos q0_aside q0_acts q0_ring q0_bestRing q0_nets q0_worked q0_then q0_plan q0_bestPlan q0_tried q0_tracks q0_kept q0_isKept q0_keptCame n_read i_houses i_weatherMany i_typed i_rowMany i_thrown i_length i_top o1.2.1 o1.2.2 i_ruleSize i_isAsked i_askedInches i_askedPath i_askedDay i_askedRoof i_askedBelow i_askedLoose i_slidesMany i_owedNow i_slidInto i_undoMany i_bestLength i_setOff i_letLie i_trackMany i_came a_read 60 o3.1 o3.2 hg4) [0, 1] rfl rfl rfl (ci := 12) rfl rfl (q0 := 0) rfl hP hD hS hA hl.1 (Nat.le_of_ble_eq_true rfl) rfl dX12_held_9 (fun H locs hP hD hS => ?_)
  have hP : va_P E.1 classes (WX12_held E q0 q0_now q0_hold q0_below q0_hay q0_weather q0_text q0_row q0_read q0_comes q0_rule q0_owedBy q0_undos q0_aside q0_acts q0_ring q0_bestRing q0_nets q0_worked q0_then q0_plan q0_bestPlan q0_tried q0_tracks q0_kept q0_isKept q0_keptCame n_read i_houses i_weatherMany i_typed i_rowMany i_thrown i_length i_top o3.2 o1.2.2 i_ruleSize i_isAsked i_askedInches i_askedPath i_askedDay i_askedRoof i_askedBelow i_askedLoose i_slidesMany i_owedNow i_slidInto i_undoMany i_bestLength i_setOff i_letLie i_trackMany i_came a_read a_hold a_weather) H := hP
  have hD : va_D A (WX12_held E q0 q0_now q0_hold q0_below q0_hay q0_weather q0_text q0_row q0_read q0_comes q0_rule q0_owedBy q0_undos q0_aside q0_acts q0_ring q0_bestRing q0_nets q0_worked q0_then q0_plan q0_bestPlan q0_tried q0_tracks q0_kept q0_isKept q0_keptCame n_read i_houses i_weatherMany i_typed i_rowMany i_thrown i_length i_top o3.2 o1.2.2 i_ruleSize i_isAsked i_askedInches i_askedPath i_askedDay i_askedRoof i_askedBelow i_askedLoose i_slidesMany i_owedNow i_slidInto i_undoMany i_bestLength i_setOff i_letLie i_trackMany i_came a_read a_hold a_weather) := hD
  refine lv_if_eq (tgt := 30) hx hb dX12_held_12 (by decide) (fun c5 => ?_) (fun c5 => ?_)
  · rw [if_pos c5] at hf
    refine lv_aload_n hx hb dX12_held_30 rfl (lv_at hl 1 rfl) ?_
    refine lv_bipush (v := 62) hx hb dX12_held_31 (by decide) ?_
    obtain ⟨o6, hg7, hf⟩ := bd_some hf
    refine k_VI (As := [.int 62]) C K_RX12_131 (by omega) (Nat.le_of_ble_eq_true rfl) (kX12_passes l E q0 q0_now q0_hold q0_below q0_hay q0_weather q0_text q0_row q0_read q0_comes q0_rule q0_owedBy q0_undos q0_aside q0_acts q0_ring q0_bestRing q0_nets q0_worked q0_then q0_plan q0_bestPlan q0_tried q0_tracks q0_kept q0_isKept q0_keptCame n_read i_houses i_weatherMany i_typed i_rowMany i_thrown i_length i_top o3.2 o1.2.2 i_ruleSize i_isAsked i_askedInches i_askedPath i_askedDay i_askedRoof i_askedBelow i_askedLoose i_slidesMany i_owedNow i_slidInto i_undoMany i_bestLength i_setOff i_letLie i_trackMany i_came a_read 62 o6.1 o6.2 hg7) [0, 1] rfl rfl rfl (ci := 12) rfl rfl (q0 := 0) rfl hP hD hS hA hl.1 (Nat.le_of_ble_eq_true rfl) rfl dX12_held_33 (fun H locs hP hD hS => ?_)
    have hP : va_P E.1 classes (WX12_held E q0 q0_now q0_hold q0_below q0_hay q0_weather q0_text q0_row q0_read q0_comes q0_rule q0_owedBy q0_undos q0_aside q0_acts q0_ring q0_bestRing q0_nets q0_worked q0_then q0_plan q0_bestPlan q0_tried q0_tracks q0_kept q0_isKept q0_keptCame n_read i_houses i_weatherMany i_typed i_rowMany i_thrown i_length i_top o6.2 o1.2.2 i_ruleSize i_isAsked i_askedInches i_askedPath i_askedDay i_askedRoof i_askedBelow i_askedLoose i_slidesMany i_owedNow i_slidInto i_undoMany i_bestLength i_setOff i_letLie i_trackMany i_came a_read a_hold a_weather) H := hP
    have hD : va_D A (WX12_held E q0 q0_now q0_hold q0_below q0_hay q0_weather q0_text q0_row q0_read q0_comes q0_rule q0_owedBy q0_undos q0_aside q0_acts q0_ring q0_bestRing q0_nets q0_worked q0_then q0_plan q0_bestPlan q0_tried q0_tracks q0_kept q0_isKept q0_keptCame n_read i_houses i_weatherMany i_typed i_rowMany i_thrown i_length i_top o6.2 o1.2.2 i_ruleSize i_isAsked i_askedInches i_askedPath i_askedDay i_askedRoof i_askedBelow i_askedLoose i_slidesMany i_owedNow i_slidInto i_undoMany i_bestLength i_setOff i_letLie i_trackMany i_came a_read a_hold a_weather) := hD
    refine lv_if_eq (tgt := 54) hx hb dX12_held_36 (by decide) (fun c8 => ?_) (fun c8 => ?_)
    · rw [if_pos c8] at hf
      refine lv_aload_n hx hb dX12_held_54 rfl (lv_at hl 1 rfl) ?_
      refine lv_bipush (v := 61) hx hb dX12_held_55 (by decide) ?_
      obtain ⟨o9, hg10, hf⟩ := bd_some hf
      refine k_VI (As := [.int 61]) C K_RX12_131 (by omega) (Nat.le_of_ble_eq_true rfl) (kX12_passes l E q0 q0_now q0_hold q0_below q0_hay q0_weather q0_text q0_row q0_read q0_comes q0_rule q0_owedBy q0_undos q0_aside q0_acts q0_ring q0_bestRing q0_nets q0_worked q0_then q0_plan q0_bestPlan q0_tried q0_tracks q0_kept q0_isKept q0_keptCame n_read i_houses i_weatherMany i_typed i_rowMany i_thrown i_length i_top o6.2 o1.2.2 i_ruleSize i_isAsked i_askedInches i_askedPath i_askedDay i_askedRoof i_askedBelow i_askedLoose i_slidesMany i_owedNow i_slidInto i_undoMany i_bestLength i_setOff i_letLie i_trackMany i_came a_read 61 o9.1 o9.2 hg10) [0, 1] rfl rfl rfl (ci := 12) rfl rfl (q0 := 0) rfl hP hD hS hA hl.1 (Nat.le_of_ble_eq_true rfl) rfl dX12_held_57 (fun H locs hP hD hS => ?_)
      have hP : va_P E.1 classes (WX12_held E q0 q0_now q0_hold q0_below q0_hay q0_weather q0_text q0_row q0_read q0_comes q0_rule q0_owedBy q0_undos q0_aside q0_acts q0_ring q0_bestRing q0_nets q0_worked q0_then q0_plan q0_bestPlan q0_tried q0_tracks q0_kept q0_isKept q0_keptCame n_read i_houses i_weatherMany i_typed i_rowMany i_thrown i_length i_top o9.2 o1.2.2 i_ruleSize i_isAsked i_askedInches i_askedPath i_askedDay i_askedRoof i_askedBelow i_askedLoose i_slidesMany i_owedNow i_slidInto i_undoMany i_bestLength i_setOff i_letLie i_trackMany i_came a_read a_hold a_weather) H := hP
      have hD : va_D A (WX12_held E q0 q0_now q0_hold q0_below q0_hay q0_weather q0_text q0_row q0_read q0_comes q0_rule q0_owedBy q0_undos q0_aside q0_acts q0_ring q0_bestRing q0_nets q0_worked q0_then q0_plan q0_bestPlan q0_tried q0_tracks q0_kept q0_isKept q0_keptCame n_read i_houses i_weatherMany i_typed i_rowMany i_thrown i_length i_top o9.2 o1.2.2 i_ruleSize i_isAsked i_askedInches i_askedPath i_askedDay i_askedRoof i_askedBelow i_askedLoose i_slidesMany i_owedNow i_slidInto i_undoMany i_bestLength i_setOff i_letLie i_trackMany i_came a_read a_hold a_weather) := hD
      refine lv_if_eq (tgt := 78) hx hb dX12_held_60 (by decide) (fun c11 => ?_) (fun c11 => ?_)
      · rw [if_pos c11] at hf
        refine lv_iload_n hx hb dX12_held_78 rfl (lv_at hl 0 rfl) ?_
        have hj0 := Option.some.inj hf
        obtain ⟨ha0, hj1⟩ := Prod.mk.inj hj0
        obtain ⟨ha1, hj2⟩ := Prod.mk.inj hj1
        subst ha0
        subst ha1
        subst hj2
        exact hret _ _ _ _ dX12_held_79 rfl hP hD hS
      · rw [if_neg c11] at hf
        refine lv_iload_n hx hb dX12_held_63 rfl (lv_at hl 0 rfl) ?_
        refine lv_aload_n hx hb dX12_held_64 rfl (lv_at hl 1 rfl) ?_
        refine lv_iload_n hx hb dX12_held_65 rfl (lv_at hl 2 rfl) ?_
        obtain ⟨o12, hg13, hf⟩ := bd_some hf
        refine k_VI (As := [.int p1]) C K_RX12_171 (Nat.lt_succ_self d) (Nat.le_of_ble_eq_true rfl) (hG1 q0 q0_now q0_hold q0_below q0_hay q0_weather q0_text q0_row q0_read q0_comes q0_rule q0_owedBy q0_undos q0_aside q0_acts q0_ring q0_bestRing q0_nets q0_worked q0_then q0_plan q0_bestPlan q0_tried q0_tracks q0_kept q0_isKept q0_keptCame n_read i_houses i_weatherMany i_typed i_rowMany i_thrown i_length i_top o9.2 o1.2.2 i_ruleSize i_isAsked i_askedInches i_askedPath i_askedDay i_askedRoof i_askedBelow i_askedLoose i_slidesMany i_owedNow i_slidInto i_undoMany i_bestLength i_setOff i_letLie i_trackMany i_came a_read a_hold a_weather p1 o12.1 o12.2.1 o12.2.2 hg13) [0, 1, 2, 3] rfl rfl rfl (ci := 12) rfl rfl (q0 := 0) rfl hP hD hS hA hl.1 (Nat.le_of_ble_eq_true rfl) rfl dX12_held_66 (fun H locs hP hD hS => ?_)
        have hP : va_P E.1 classes (WX12_held E q0 q0_now q0_hold q0_below q0_hay q0_weather q0_text q0_row q0_read q0_comes q0_rule q0_owedBy q0_undos q0_aside q0_acts q0_ring q0_bestRing q0_nets q0_worked q0_then q0_plan q0_bestPlan q0_tried q0_tracks q0_kept q0_isKept q0_keptCame n_read i_houses i_weatherMany i_typed i_rowMany i_thrown i_length i_top o12.2.1 o12.2.2 i_ruleSize i_isAsked i_askedInches i_askedPath i_askedDay i_askedRoof i_askedBelow i_askedLoose i_slidesMany i_owedNow i_slidInto i_undoMany i_bestLength i_setOff i_letLie i_trackMany i_came a_read a_hold a_weather) H := hP
        have hD : va_D A (WX12_held E q0 q0_now q0_hold q0_below q0_hay q0_weather q0_text q0_row q0_read q0_comes q0_rule q0_owedBy q0_undos q0_aside q0_acts q0_ring q0_bestRing q0_nets q0_worked q0_then q0_plan q0_bestPlan q0_tried q0_tracks q0_kept q0_isKept q0_keptCame n_read i_houses i_weatherMany i_typed i_rowMany i_thrown i_length i_top o12.2.1 o12.2.2 i_ruleSize i_isAsked i_askedInches i_askedPath i_askedDay i_askedRoof i_askedBelow i_askedLoose i_slidesMany i_owedNow i_slidInto i_undoMany i_bestLength i_setOff i_letLie i_trackMany i_came a_read a_hold a_weather) := hD
        refine lv_icmp_ne (tgt := 76) hx hb dX12_held_69 (by decide) (fun c14 => ?_) (fun c14 => ?_)
        · rw [if_neg c14] at hf
          refine lv_iconst (v := 0) hx hb dX12_held_76 (by decide) ?_
          have hj0 := Option.some.inj hf
          obtain ⟨ha0, hj1⟩ := Prod.mk.inj hj0
          obtain ⟨ha1, hj2⟩ := Prod.mk.inj hj1
          subst ha0
          subst ha1
          subst hj2
          exact hret _ _ _ _ dX12_held_77 rfl hP hD hS
        · rw [if_pos c14] at hf
          refine lv_iconst (v := 1) hx hb dX12_held_72 (by decide) ?_
          refine lv_goto (tgt := 77) hx hb dX12_held_73 (by decide) ?_
          have hj0 := Option.some.inj hf
          obtain ⟨ha0, hj1⟩ := Prod.mk.inj hj0
          obtain ⟨ha1, hj2⟩ := Prod.mk.inj hj1
          subst ha0
          subst ha1
          subst hj2
          exact hret _ _ _ _ dX12_held_77 rfl hP hD hS
    · rw [if_neg c8] at hf
      refine lv_iload_n hx hb dX12_held_39 rfl (lv_at hl 0 rfl) ?_
      refine lv_aload_n hx hb dX12_held_40 rfl (lv_at hl 1 rfl) ?_
      refine lv_iload_n hx hb dX12_held_41 rfl (lv_at hl 2 rfl) ?_
      obtain ⟨o15, hg16, hf⟩ := bd_some hf
      refine k_VI (As := [.int p1]) C K_RX12_171 (Nat.lt_succ_self d) (Nat.le_of_ble_eq_true rfl) (hG1 q0 q0_now q0_hold q0_below q0_hay q0_weather q0_text q0_row q0_read q0_comes q0_rule q0_owedBy q0_undos q0_aside q0_acts q0_ring q0_bestRing q0_nets q0_worked q0_then q0_plan q0_bestPlan q0_tried q0_tracks q0_kept q0_isKept q0_keptCame n_read i_houses i_weatherMany i_typed i_rowMany i_thrown i_length i_top o6.2 o1.2.2 i_ruleSize i_isAsked i_askedInches i_askedPath i_askedDay i_askedRoof i_askedBelow i_askedLoose i_slidesMany i_owedNow i_slidInto i_undoMany i_bestLength i_setOff i_letLie i_trackMany i_came a_read a_hold a_weather p1 o15.1 o15.2.1 o15.2.2 hg16) [0, 1, 2, 3] rfl rfl rfl (ci := 12) rfl rfl (q0 := 0) rfl hP hD hS hA hl.1 (Nat.le_of_ble_eq_true rfl) rfl dX12_held_42 (fun H locs hP hD hS => ?_)
      have hP : va_P E.1 classes (WX12_held E q0 q0_now q0_hold q0_below q0_hay q0_weather q0_text q0_row q0_read q0_comes q0_rule q0_owedBy q0_undos q0_aside q0_acts q0_ring q0_bestRing q0_nets q0_worked q0_then q0_plan q0_bestPlan q0_tried q0_tracks q0_kept q0_isKept q0_keptCame n_read i_houses i_weatherMany i_typed i_rowMany i_thrown i_length i_top o15.2.1 o15.2.2 i_ruleSize i_isAsked i_askedInches i_askedPath i_askedDay i_askedRoof i_askedBelow i_askedLoose i_slidesMany i_owedNow i_slidInto i_undoMany i_bestLength i_setOff i_letLie i_trackMany i_came a_read a_hold a_weather) H := hP
      have hD : va_D A (WX12_held E q0 q0_now q0_hold q0_below q0_hay q0_weather q0_text q0_row q0_read q0_comes q0_rule q0_owedBy q0_undos q0_aside q0_acts q0_ring q0_bestRing q0_nets q0_worked q0_then q0_plan q0_bestPlan q0_tried q0_tracks q0_kept q0_isKept q0_keptCame n_read i_houses i_weatherMany i_typed i_rowMany i_thrown i_length i_top o15.2.1 o15.2.2 i_ruleSize i_isAsked i_askedInches i_askedPath i_askedDay i_askedRoof i_askedBelow i_askedLoose i_slidesMany i_owedNow i_slidInto i_undoMany i_bestLength i_setOff i_letLie i_trackMany i_came a_read a_hold a_weather) := hD
      refine lv_icmp_le (tgt := 52) hx hb dX12_held_45 (by decide) (fun c17 => ?_) (fun c17 => ?_)
      · rw [if_pos c17] at hf
        refine lv_iconst (v := 0) hx hb dX12_held_52 (by decide) ?_
        have hj0 := Option.some.inj hf
        obtain ⟨ha0, hj1⟩ := Prod.mk.inj hj0
        obtain ⟨ha1, hj2⟩ := Prod.mk.inj hj1
        subst ha0
        subst ha1
        subst hj2
        exact hret _ _ _ _ dX12_held_53 rfl hP hD hS
      · rw [if_neg c17] at hf
        refine lv_iconst (v := 1) hx hb dX12_held_48 (by decide) ?_
        refine lv_goto (tgt := 53) hx hb dX12_held_49 (by decide) ?_
        have hj0 := Option.some.inj hf
        obtain ⟨ha0, hj1⟩ := Prod.mk.inj hj0
        obtain ⟨ha1, hj2⟩ := Prod.mk.inj hj1
        subst ha0
        subst ha1
        subst hj2
        exact hret _ _ _ _ dX12_held_53 rfl hP hD hS
  · rw [if_neg c5] at hf
    refine lv_iload_n hx hb dX12_held_15 rfl (lv_at hl 0 rfl) ?_
    refine lv_aload_n hx hb dX12_held_16 rfl (lv_at hl 1 rfl) ?_
    refine lv_iload_n hx hb dX12_held_17 rfl (lv_at hl 2 rfl) ?_
    obtain ⟨o18, hg19, hf⟩ := bd_some hf
    refine k_VI (As := [.int p1]) C K_RX12_171 (Nat.lt_succ_self d) (Nat.le_of_ble_eq_true rfl) (hG1 q0 q0_now q0_hold q0_below q0_hay q0_weather q0_text q0_row q0_read q0_comes q0_rule q0_owedBy q0_undos q0_aside q0_acts q0_ring q0_bestRing q0_nets q0_worked q0_then q0_plan q0_bestPlan q0_tried q0_tracks q0_kept q0_isKept q0_keptCame n_read i_houses i_weatherMany i_typed i_rowMany i_thrown i_length i_top o3.2 o1.2.2 i_ruleSize i_isAsked i_askedInches i_askedPath i_askedDay i_askedRoof i_askedBelow i_askedLoose i_slidesMany i_owedNow i_slidInto i_undoMany i_bestLength i_setOff i_letLie i_trackMany i_came a_read a_hold a_weather p1 o18.1 o18.2.1 o18.2.2 hg19) [0, 1, 2, 3] rfl rfl rfl (ci := 12) rfl rfl (q0 := 0) rfl hP hD hS hA hl.1 (Nat.le_of_ble_eq_true rfl) rfl dX12_held_18 (fun H locs hP hD hS => ?_)
    have hP : va_P E.1 classes (WX12_held E q0 q0_now q0_hold q0_below q0_hay q0_weather q0_text q0_row q0_read q0_comes q0_rule q0_owedBy q0_undos q0_aside q0_acts q0_ring q0_bestRing q0_nets q0_worked q0_then q0_plan q0_bestPlan q0_tried q0_tracks q0_kept q0_isKept q0_keptCame n_read i_houses i_weatherMany i_typed i_rowMany i_thrown i_length i_top o18.2.1 o18.2.2 i_ruleSize i_isAsked i_askedInches i_askedPath i_askedDay i_askedRoof i_askedBelow i_askedLoose i_slidesMany i_owedNow i_slidInto i_undoMany i_bestLength i_setOff i_letLie i_trackMany i_came a_read a_hold a_weather) H := hP
    have hD : va_D A (WX12_held E q0 q0_now q0_hold q0_below q0_hay q0_weather q0_text q0_row q0_read q0_comes q0_rule q0_owedBy q0_undos q0_aside q0_acts q0_ring q0_bestRing q0_nets q0_worked q0_then q0_plan q0_bestPlan q0_tried q0_tracks q0_kept q0_isKept q0_keptCame n_read i_houses i_weatherMany i_typed i_rowMany i_thrown i_length i_top o18.2.1 o18.2.2 i_ruleSize i_isAsked i_askedInches i_askedPath i_askedDay i_askedRoof i_askedBelow i_askedLoose i_slidesMany i_owedNow i_slidInto i_undoMany i_bestLength i_setOff i_letLie i_trackMany i_came a_read a_hold a_weather) := hD
    refine lv_icmp_ge (tgt := 28) hx hb dX12_held_21 (by decide) (fun c20 => ?_) (fun c20 => ?_)
    · rw [if_pos c20] at hf
      refine lv_iconst (v := 0) hx hb dX12_held_28 (by decide) ?_
      have hj0 := Option.some.inj hf
      obtain ⟨ha0, hj1⟩ := Prod.mk.inj hj0
      obtain ⟨ha1, hj2⟩ := Prod.mk.inj hj1
      subst ha0
      subst ha1
      subst hj2
      exact hret _ _ _ _ dX12_held_29 rfl hP hD hS
    · rw [if_neg c20] at hf
      refine lv_iconst (v := 1) hx hb dX12_held_24 (by decide) ?_
      refine lv_goto (tgt := 29) hx hb dX12_held_25 (by decide) ?_
      have hj0 := Option.some.inj hf
      obtain ⟨ha0, hj1⟩ := Prod.mk.inj hj0
      obtain ⟨ha1, hj2⟩ := Prod.mk.inj hj1
      subst ha0
      subst ha1
      subst hj2
      exact hret _ _ _ _ dX12_held_29 rfl hP hD hS
theorem K_RX12_174 : KV RX12 174 yX12_product cX12_product 5 (some .int) 1 := ⟨Tg_mem 1563 (by decide +kernel) (by decide +kernel), Tg_mem 102 (by decide +kernel) (by decide +kernel), Tg_mem 1560 (by decide +kernel) (by decide +kernel), Tg_mem 1562 (by decide +kernel) (by decide +kernel), Tg_mem 51 (by decide +kernel) (by decide +kernel), by decide +kernel⟩
theorem dX12_sum_0 : decode cX12_sum 0 = .ok (.aload_n 0, 1) := by decide +kernel
theorem dX12_sum_1 : decode cX12_sum 1 = .ok (.iload_n 1, 1) := by decide +kernel
theorem dX12_sum_2 : decode cX12_sum 2 = .ok (.invokevirtual 174, 3) := by decide +kernel
theorem dX12_sum_5 : decode cX12_sum 5 = .ok (.istore_n 2, 1) := by decide +kernel
theorem dX12_sum_6 : decode cX12_sum 6 = .ok (.aload_n 0, 1) := by decide +kernel
theorem dX12_sum_7 : decode cX12_sum 7 = .ok (.invokevirtual 123, 3) := by decide +kernel
theorem dX12_sum_10 : decode cX12_sum 10 = .ok (.ifCond .eq 72, 3) := by decide +kernel
theorem dX12_sum_13 : decode cX12_sum 13 = .ok (.aload_n 0, 1) := by decide +kernel
theorem dX12_sum_14 : decode cX12_sum 14 = .ok (.invokevirtual 127, 3) := by decide +kernel
theorem dX12_sum_17 : decode cX12_sum 17 = .ok (.bipush 43, 2) := by decide +kernel
theorem dX12_sum_19 : decode cX12_sum 19 = .ok (.if_icmp .eq 12, 3) := by decide +kernel
theorem dX12_sum_22 : decode cX12_sum 22 = .ok (.aload_n 0, 1) := by decide +kernel
theorem dX12_sum_23 : decode cX12_sum 23 = .ok (.invokevirtual 127, 3) := by decide +kernel
theorem dX12_sum_26 : decode cX12_sum 26 = .ok (.bipush 45, 2) := by decide +kernel
theorem dX12_sum_28 : decode cX12_sum 28 = .ok (.if_icmp .ne 54, 3) := by decide +kernel
theorem dX12_sum_31 : decode cX12_sum 31 = .ok (.aload_n 0, 1) := by decide +kernel
theorem dX12_sum_32 : decode cX12_sum 32 = .ok (.invokevirtual 127, 3) := by decide +kernel
theorem dX12_sum_35 : decode cX12_sum 35 = .ok (.bipush 43, 2) := by decide +kernel
theorem dX12_sum_37 : decode cX12_sum 37 = .ok (.if_icmp .ne 7, 3) := by decide +kernel
theorem dX12_sum_40 : decode cX12_sum 40 = .ok (.iconst 1, 1) := by decide +kernel
theorem dX12_sum_41 : decode cX12_sum 41 = .ok (.goto 4, 3) := by decide +kernel
theorem dX12_sum_44 : decode cX12_sum 44 = .ok (.iconst 0, 1) := by decide +kernel
theorem dX12_sum_45 : decode cX12_sum 45 = .ok (.istore_n 3, 1) := by decide +kernel
theorem dX12_sum_46 : decode cX12_sum 46 = .ok (.aload_n 0, 1) := by decide +kernel
theorem dX12_sum_47 : decode cX12_sum 47 = .ok (.dup, 1) := by decide +kernel
theorem dX12_sum_48 : decode cX12_sum 48 = .ok (.getfield 117, 3) := by decide +kernel
theorem dX12_sum_51 : decode cX12_sum 51 = .ok (.iconst 1, 1) := by decide +kernel
theorem dX12_sum_52 : decode cX12_sum 52 = .ok (.iadd, 1) := by decide +kernel
theorem dX12_sum_53 : decode cX12_sum 53 = .ok (.putfield 117, 3) := by decide +kernel
theorem dX12_sum_56 : decode cX12_sum 56 = .ok (.aload_n 0, 1) := by decide +kernel
theorem dX12_sum_57 : decode cX12_sum 57 = .ok (.iload_n 1, 1) := by decide +kernel
theorem dX12_sum_58 : decode cX12_sum 58 = .ok (.invokevirtual 174, 3) := by decide +kernel
theorem dX12_sum_61 : decode cX12_sum 61 = .ok (.istore 4, 2) := by decide +kernel
theorem dX12_sum_63 : decode cX12_sum 63 = .ok (.iload_n 3, 1) := by decide +kernel
theorem dX12_sum_64 : decode cX12_sum 64 = .ok (.ifCond .eq 10, 3) := by decide +kernel
theorem dX12_sum_67 : decode cX12_sum 67 = .ok (.iload_n 2, 1) := by decide +kernel
theorem dX12_sum_68 : decode cX12_sum 68 = .ok (.iload 4, 2) := by decide +kernel
theorem dX12_sum_70 : decode cX12_sum 70 = .ok (.iadd, 1) := by decide +kernel
theorem dX12_sum_71 : decode cX12_sum 71 = .ok (.goto 7, 3) := by decide +kernel
theorem dX12_sum_74 : decode cX12_sum 74 = .ok (.iload_n 2, 1) := by decide +kernel
theorem dX12_sum_75 : decode cX12_sum 75 = .ok (.iload 4, 2) := by decide +kernel
theorem dX12_sum_77 : decode cX12_sum 77 = .ok (.isub, 1) := by decide +kernel
theorem dX12_sum_78 : decode cX12_sum 78 = .ok (.istore_n 2, 1) := by decide +kernel
theorem dX12_sum_79 : decode cX12_sum 79 = .ok (.goto (-73), 3) := by decide +kernel
theorem dX12_sum_82 : decode cX12_sum 82 = .ok (.iload_n 2, 1) := by decide +kernel
theorem dX12_sum_83 : decode cX12_sum 83 = .ok (.ireturn, 1) := by decide +kernel
set_option maxHeartbeats 4000000 in
set_option maxRecDepth 20000 in
theorem kX12_sum_B (l : Launch) (E : ENV) (d : Nat) (hd9 : 3 ≤ d) (G : Nat → Nat → Int32 → Int32 → Int32 → Int32 → Int32 → Int32 → Int32 → Int32 → Int32 → Int32 → Int32 → Int32 → (Nat → Int32) → (Nat → Int32) → (Nat → Int32) → Int32 → Option (Int32 × Int32 × Int32)) (hG2 : ∀ (q0 : Nat) (q0_now : Nat) (q0_hold : Nat) (q0_below : Nat) (q0_hay : Nat) (q0_weather : Nat) (q0_text : Nat) (q0_row : Nat) (q0_read : Nat) (q0_comes : Nat) (q0_rule : Nat) (q0_owedBy : Nat) (q0_undos : Nat) (q0_aside : Nat) (q0_acts : Nat) (q0_ring : Nat) (q0_bestRing : Nat) (q0_nets : Nat) (q0_worked : Nat) (q0_then : Nat) (q0_plan : Nat) (q0_bestPlan : Nat) (q0_tried : Nat) (q0_tracks : Nat) (q0_kept : Nat) (q0_isKept : Nat) (q0_keptCame : Nat) (n_read : Nat) (i_houses : Int32) (i_weatherMany : Int32) (i_typed : Int32) (i_rowMany : Int32) (i_thrown : Int32) (i_length : Int32) (i_top : Int32) (i_at : Int32) (i_wrong : Int32) (i_ruleSize : Int32) (i_isAsked : Int32) (i_askedInches : Int32) (i_askedPath : Int32) (i_askedDay : Int32) (i_askedRoof : Int32) (i_askedBelow : Int32) (i_askedLoose : Int32) (i_slidesMany : Int32) (i_owedNow : Int32) (i_slidInto : Int32) (i_undoMany : Int32) (i_bestLength : Int32) (i_setOff : Int32) (i_letLie : Int32) (i_trackMany : Int32) (i_came : Int32) (a_read : Nat → Int32) (a_hold : Nat → Int32) (a_weather : Nat → Int32) (p1 : Int32) (r9 : Int32) (i_at9 : Int32) (i_wrong9 : Int32), G 2 n_read i_weatherMany i_length i_top i_at i_wrong i_isAsked i_askedInches i_askedPath i_askedDay i_askedRoof i_askedBelow i_askedLoose a_read a_hold a_weather p1 = some (r9, i_at9, i_wrong9) → CI l E yX12_product cX12_product 5 (some .int) d [.ref q0, .int p1] (WX12_held E q0 q0_now q0_hold q0_below q0_hay q0_weather q0_text q0_row q0_read q0_comes q0_rule q0_owedBy q0_undos q0_aside q0_acts q0_ring q0_bestRing q0_nets q0_worked q0_then q0_plan q0_bestPlan q0_tried q0_tracks q0_kept q0_isKept q0_keptCame n_read i_houses i_weatherMany i_typed i_rowMany i_thrown i_length i_top i_at i_wrong i_ruleSize i_isAsked i_askedInches i_askedPath i_askedDay i_askedRoof i_askedBelow i_askedLoose i_slidesMany i_owedNow i_slidInto i_undoMany i_bestLength i_setOff i_letLie i_trackMany i_came a_read a_hold a_weather) (WX12_held E q0 q0_now q0_hold q0_below q0_hay q0_weather q0_text q0_row q0_read q0_comes q0_rule q0_owedBy q0_undos q0_aside q0_acts q0_ring q0_bestRing q0_nets q0_worked q0_then q0_plan q0_bestPlan q0_tried q0_tracks q0_kept q0_isKept q0_keptCame n_read i_houses i_weatherMany i_typed i_rowMany i_thrown i_length i_top i_at9 i_wrong9 i_ruleSize i_isAsked i_askedInches i_askedPath i_askedDay i_askedRoof i_askedBelow i_askedLoose i_slidesMany i_owedNow i_slidInto i_undoMany i_bestLength i_setOff i_letLie i_trackMany i_came a_read a_hold a_weather) r9) (q0 : Nat) (q0_now : Nat) (q0_hold : Nat) (q0_below : Nat) (q0_hay : Nat) (q0_weather : Nat) (q0_text : Nat) (q0_row : Nat) (q0_read : Nat) (q0_comes : Nat) (q0_rule : Nat) (q0_owedBy : Nat) (q0_undos : Nat) (q0_aside : Nat) (q0_acts : Nat) (q0_ring : Nat) (q0_bestRing : Nat) (q0_nets : Nat) (q0_worked : Nat) (q0_then : Nat) (q0_plan : Nat) (q0_bestPlan : Nat) (q0_tried : Nat) (q0_tracks : Nat) (q0_kept : Nat) (q0_isKept : Nat) (q0_keptCame : Nat) (n_read : Nat) (i_houses : Int32) (i_weatherMany : Int32) (i_typed : Int32) (i_rowMany : Int32) (i_thrown : Int32) (i_length : Int32) (i_top : Int32) (i_at : Int32) (i_wrong : Int32) (i_ruleSize : Int32) (i_isAsked : Int32) (i_askedInches : Int32) (i_askedPath : Int32) (i_askedDay : Int32) (i_askedRoof : Int32) (i_askedBelow : Int32) (i_askedLoose : Int32) (i_slidesMany : Int32) (i_owedNow : Int32) (i_slidInto : Int32) (i_undoMany : Int32) (i_bestLength : Int32) (i_setOff : Int32) (i_letLie : Int32) (i_trackMany : Int32) (i_came : Int32) (a_read : Nat → Int32) (a_hold : Nat → Int32) (a_weather : Nat → Int32) (p1 : Int32) (r9 : Int32) (i_at9 : Int32) (i_wrong9 : Int32) (hf : fX12_sum_B G n_read i_weatherMany i_length i_top i_at i_wrong i_isAsked i_askedInches i_askedPath i_askedDay i_askedRoof i_askedBelow i_askedLoose a_read a_hold a_weather p1 = some (r9, i_at9, i_wrong9)) : CI l E yX12_sum cX12_sum 5 (some .int) (d + 1) [.ref q0, .int p1] (WX12_held E q0 q0_now q0_hold q0_below q0_hay q0_weather q0_text q0_row q0_read q0_comes q0_rule q0_owedBy q0_undos q0_aside q0_acts q0_ring q0_bestRing q0_nets q0_worked q0_then q0_plan q0_bestPlan q0_tried q0_tracks q0_kept q0_isKept q0_keptCame n_read i_houses i_weatherMany i_typed i_rowMany i_thrown i_length i_top i_at i_wrong i_ruleSize i_isAsked i_askedInches i_askedPath i_askedDay i_askedRoof i_askedBelow i_askedLoose i_slidesMany i_owedNow i_slidInto i_undoMany i_bestLength i_setOff i_letLie i_trackMany i_came a_read a_hold a_weather) (WX12_held E q0 q0_now q0_hold q0_below q0_hay q0_weather q0_text q0_row q0_read q0_comes q0_rule q0_owedBy q0_undos q0_aside q0_acts q0_ring q0_bestRing q0_nets q0_worked q0_then q0_plan q0_bestPlan q0_tried q0_tracks q0_kept q0_isKept q0_keptCame n_read i_houses i_weatherMany i_typed i_rowMany i_thrown i_length i_top i_at9 i_wrong9 i_ruleSize i_isAsked i_askedInches i_askedPath i_askedDay i_askedRoof i_askedBelow i_askedLoose i_slidesMany i_owedNow i_slidInto i_undoMany i_bestLength i_setOff i_letLie i_trackMany i_came a_read a_hold a_weather) r9 := by
  refine begI (by decide +kernel) (Nat.le_of_ble_eq_true rfl) ?_
  intro p e s m args below meth c A Q C hA hret
  have hx := C.1
  have hb := C.2.1
  have L6 : ∀ (n : Nat) (v2 : Int32) (i_at : Int32) (i_wrong : Int32) (o : Int32 × Int32 × Int32), fX12_sum_L6 G n_read i_weatherMany i_length i_top i_isAsked i_askedInches i_askedPath i_askedDay i_askedRoof i_askedBelow i_askedLoose a_read a_hold a_weather p1 n v2 i_at i_wrong = some o → (GO p l e (d + 1) s m args below meth c Q E A 5 82 [] [(2, .int o.1)] (WX12_held E q0 q0_now q0_hold q0_below q0_hay q0_weather q0_text q0_row q0_read q0_comes q0_rule q0_owedBy q0_undos q0_aside q0_acts q0_ring q0_bestRing q0_nets q0_worked q0_then q0_plan q0_bestPlan q0_tried q0_tracks q0_kept q0_isKept q0_keptCame n_read i_houses i_weatherMany i_typed i_rowMany i_thrown i_length i_top o.2.1 o.2.2 i_ruleSize i_isAsked i_askedInches i_askedPath i_askedDay i_askedRoof i_askedBelow i_askedLoose i_slidesMany i_owedNow i_slidInto i_undoMany i_bestLength i_setOff i_letLie i_trackMany i_came a_read a_hold a_weather)) → GO p l e (d + 1) s m args below meth c Q E A 5 6 [] [(0, .ref q0), (1, .int p1), (2, .int v2)] (WX12_held E q0 q0_now q0_hold q0_below q0_hay q0_weather q0_text q0_row q0_read q0_comes q0_rule q0_owedBy q0_undos q0_aside q0_acts q0_ring q0_bestRing q0_nets q0_worked q0_then q0_plan q0_bestPlan q0_tried q0_tracks q0_kept q0_isKept q0_keptCame n_read i_houses i_weatherMany i_typed i_rowMany i_thrown i_length i_top i_at i_wrong i_ruleSize i_isAsked i_askedInches i_askedPath i_askedDay i_askedRoof i_askedBelow i_askedLoose i_slidesMany i_owedNow i_slidInto i_undoMany i_bestLength i_setOff i_letLie i_trackMany i_came a_read a_hold a_weather) := by
    intro n
    induction n with
    | zero =>
      intro v2 i_at i_wrong o hf
      have hf : none = some o := hf
      cases hf
    | succ n ih =>
      intro v2 i_at i_wrong o hf hE
      have J45 : ∀ (v2 : Int32) (s0 : Int32) (i_at : Int32) (i_wrong : Int32), fX12_sum_J45 (fX12_sum_L6 G n_read i_weatherMany i_length i_top i_isAsked i_askedInches i_askedPath i_askedDay i_askedRoof i_askedBelow i_askedLoose a_read a_hold a_weather p1 n) G n_read i_weatherMany i_length i_top i_isAsked i_askedInches i_askedPath i_askedDay i_askedRoof i_askedBelow i_askedLoose a_read a_hold a_weather p1 v2 s0 i_at i_wrong = some o → GO p l e (d + 1) s m args below meth c Q E A 5 45 [.int s0] [(0, .ref q0), (1, .int p1), (2, .int v2)] (WX12_held E q0 q0_now q0_hold q0_below q0_hay q0_weather q0_text q0_row q0_read q0_comes q0_rule q0_owedBy q0_undos q0_aside q0_acts q0_ring q0_bestRing q0_nets q0_worked q0_then q0_plan q0_bestPlan q0_tried q0_tracks q0_kept q0_isKept q0_keptCame n_read i_houses i_weatherMany i_typed i_rowMany i_thrown i_length i_top i_at i_wrong i_ruleSize i_isAsked i_askedInches i_askedPath i_askedDay i_askedRoof i_askedBelow i_askedLoose i_slidesMany i_owedNow i_slidInto i_undoMany i_bestLength i_setOff i_letLie i_trackMany i_came a_read a_hold a_weather) := by
        intro v2 s0 i_at i_wrong hf H locs ls hl hP hD hS
        unfold fX12_sum_J45 at hf
        refine lv_istore_n (lv' := [(3, .int s0), (0, .ref q0), (1, .int p1), (2, .int v2)]) hx hb dX12_sum_45 rfl hl (by decide) rfl (fun ls hl => ?_)
        refine lv_aload_n hx hb dX12_sum_46 rfl (lv_at hl 1 rfl) ?_
        refine lv_dup hx hb dX12_sum_47 rfl ?_
        refine gf_RX12_117 C hP 0 rfl rfl dX12_sum_48 ?_
        refine lv_iconst (v := 1) hx hb dX12_sum_51 (by decide) ?_
        refine lv_iadd hx hb dX12_sum_52 ?_
        refine pf_RX12_117 C hP hD hS 0 rfl (Nat.le_of_ble_eq_true rfl) dX12_sum_53 (fun H locs hP hD hS => ?_)
        have hP : va_P E.1 classes (WX12_held E q0 q0_now q0_hold q0_below q0_hay q0_weather q0_text q0_row q0_read q0_comes q0_rule q0_owedBy q0_undos q0_aside q0_acts q0_ring q0_bestRing q0_nets q0_worked q0_then q0_plan q0_bestPlan q0_tried q0_tracks q0_kept q0_isKept q0_keptCame n_read i_houses i_weatherMany i_typed i_rowMany i_thrown i_length i_top ((i_at + 1)) i_wrong i_ruleSize i_isAsked i_askedInches i_askedPath i_askedDay i_askedRoof i_askedBelow i_askedLoose i_slidesMany i_owedNow i_slidInto i_undoMany i_bestLength i_setOff i_letLie i_trackMany i_came a_read a_hold a_weather) H := hP
        have hD : va_D A (WX12_held E q0 q0_now q0_hold q0_below q0_hay q0_weather q0_text q0_row q0_read q0_comes q0_rule q0_owedBy q0_undos q0_aside q0_acts q0_ring q0_bestRing q0_nets q0_worked q0_then q0_plan q0_bestPlan q0_tried q0_tracks q0_kept q0_isKept q0_keptCame n_read i_houses i_weatherMany i_typed i_rowMany i_thrown i_length i_top ((i_at + 1)) i_wrong i_ruleSize i_isAsked i_askedInches i_askedPath i_askedDay i_askedRoof i_askedBelow i_askedLoose i_slidesMany i_owedNow i_slidInto i_undoMany i_bestLength i_setOff i_letLie i_trackMany i_came a_read a_hold a_weather) := hD
        refine lv_aload_n hx hb dX12_sum_56 rfl (lv_at hl 1 rfl) ?_
        refine lv_iload_n hx hb dX12_sum_57 rfl (lv_at hl 2 rfl) ?_
        obtain ⟨o12, hg13, hf⟩ := bd_some hf
        refine k_VI (As := [.int p1]) C K_RX12_174 (Nat.lt_succ_self d) (Nat.le_of_ble_eq_true rfl) (hG2 q0 q0_now q0_hold q0_below q0_hay q0_weather q0_text q0_row q0_read q0_comes q0_rule q0_owedBy q0_undos q0_aside q0_acts q0_ring q0_bestRing q0_nets q0_worked q0_then q0_plan q0_bestPlan q0_tried q0_tracks q0_kept q0_isKept q0_keptCame n_read i_houses i_weatherMany i_typed i_rowMany i_thrown i_length i_top ((i_at + 1)) i_wrong i_ruleSize i_isAsked i_askedInches i_askedPath i_askedDay i_askedRoof i_askedBelow i_askedLoose i_slidesMany i_owedNow i_slidInto i_undoMany i_bestLength i_setOff i_letLie i_trackMany i_came a_read a_hold a_weather p1 o12.1 o12.2.1 o12.2.2 hg13) [0, 1, 2, 3] rfl rfl rfl (ci := 12) rfl rfl (q0 := 0) rfl hP hD hS hA hl.1 (Nat.le_of_ble_eq_true rfl) rfl dX12_sum_58 (fun H locs hP hD hS => ?_)
        have hP : va_P E.1 classes (WX12_held E q0 q0_now q0_hold q0_below q0_hay q0_weather q0_text q0_row q0_read q0_comes q0_rule q0_owedBy q0_undos q0_aside q0_acts q0_ring q0_bestRing q0_nets q0_worked q0_then q0_plan q0_bestPlan q0_tried q0_tracks q0_kept q0_isKept q0_keptCame n_read i_houses i_weatherMany i_typed i_rowMany i_thrown i_length i_top o12.2.1 o12.2.2 i_ruleSize i_isAsked i_askedInches i_askedPath i_askedDay i_askedRoof i_askedBelow i_askedLoose i_slidesMany i_owedNow i_slidInto i_undoMany i_bestLength i_setOff i_letLie i_trackMany i_came a_read a_hold a_weather) H := hP
        have hD : va_D A (WX12_held E q0 q0_now q0_hold q0_below q0_hay q0_weather q0_text q0_row q0_read q0_comes q0_rule q0_owedBy q0_undos q0_aside q0_acts q0_ring q0_bestRing q0_nets q0_worked q0_then q0_plan q0_bestPlan q0_tried q0_tracks q0_kept q0_isKept q0_keptCame n_read i_houses i_weatherMany i_typed i_rowMany i_thrown i_length i_top o12.2.1 o12.2.2 i_ruleSize i_isAsked i_askedInches i_askedPath i_askedDay i_askedRoof i_askedBelow i_askedLoose i_slidesMany i_owedNow i_slidInto i_undoMany i_bestLength i_setOff i_letLie i_trackMany i_came a_read a_hold a_weather) := hD
        refine lv_istore (lv' := [(4, .int o12.1), (3, .int s0), (0, .ref q0), (1, .int p1), (2, .int v2)]) hx hb dX12_sum_61 hl (by decide) rfl (fun ls hl => ?_)
        refine lv_iload_n hx hb dX12_sum_63 rfl (lv_at hl 1 rfl) ?_
        refine lv_if_eq (tgt := 74) hx hb dX12_sum_64 (by decide) (fun c14 => ?_) (fun c14 => ?_)
        · rw [if_pos c14] at hf
          refine lv_iload_n hx hb dX12_sum_74 rfl (lv_at hl 4 rfl) ?_
          refine lv_iload hx hb dX12_sum_75 (lv_at hl 0 rfl) ?_
          refine lv_isub hx hb dX12_sum_77 ?_
          refine lv_istore_n (lv' := [(2, .int ((v2 - o12.1))), (4, .int o12.1), (3, .int s0), (0, .ref q0), (1, .int p1)]) hx hb dX12_sum_78 rfl hl (by decide) rfl (fun ls hl => ?_)
          refine lv_goto (tgt := 6) hx hb dX12_sum_79 (by decide) ?_
          exact ih ((v2 - o12.1)) o12.2.1 o12.2.2 _ hf hE _ _ _ (lv_sub hl [3, 4, 0] rfl) hP hD hS
        · rw [if_neg c14] at hf
          refine lv_iload_n hx hb dX12_sum_67 rfl (lv_at hl 4 rfl) ?_
          refine lv_iload hx hb dX12_sum_68 (lv_at hl 0 rfl) ?_
          refine lv_iadd hx hb dX12_sum_70 ?_
          refine lv_goto (tgt := 78) hx hb dX12_sum_71 (by decide) ?_
          refine lv_istore_n (lv' := [(2, .int ((v2 + o12.1))), (4, .int o12.1), (3, .int s0), (0, .ref q0), (1, .int p1)]) hx hb dX12_sum_78 rfl hl (by decide) rfl (fun ls hl => ?_)
          refine lv_goto (tgt := 6) hx hb dX12_sum_79 (by decide) ?_
          exact ih ((v2 + o12.1)) o12.2.1 o12.2.2 _ hf hE _ _ _ (lv_sub hl [3, 4, 0] rfl) hP hD hS
      have J31 : ∀ (v2 : Int32) (i_at : Int32) (i_wrong : Int32), fX12_sum_J31 (fX12_sum_L6 G n_read i_weatherMany i_length i_top i_isAsked i_askedInches i_askedPath i_askedDay i_askedRoof i_askedBelow i_askedLoose a_read a_hold a_weather p1 n) G n_read i_weatherMany i_length i_top i_isAsked i_askedInches i_askedPath i_askedDay i_askedRoof i_askedBelow i_askedLoose a_read a_hold a_weather p1 v2 i_at i_wrong = some o → GO p l e (d + 1) s m args below meth c Q E A 5 31 [] [(0, .ref q0), (1, .int p1), (2, .int v2)] (WX12_held E q0 q0_now q0_hold q0_below q0_hay q0_weather q0_text q0_row q0_read q0_comes q0_rule q0_owedBy q0_undos q0_aside q0_acts q0_ring q0_bestRing q0_nets q0_worked q0_then q0_plan q0_bestPlan q0_tried q0_tracks q0_kept q0_isKept q0_keptCame n_read i_houses i_weatherMany i_typed i_rowMany i_thrown i_length i_top i_at i_wrong i_ruleSize i_isAsked i_askedInches i_askedPath i_askedDay i_askedRoof i_askedBelow i_askedLoose i_slidesMany i_owedNow i_slidInto i_undoMany i_bestLength i_setOff i_letLie i_trackMany i_came a_read a_hold a_weather) := by
        intro v2 i_at i_wrong hf H locs ls hl hP hD hS
        unfold fX12_sum_J31 at hf
        refine lv_aload_n hx hb dX12_sum_31 rfl (lv_at hl 0 rfl) ?_
        obtain ⟨o9, hg10, hf⟩ := bd_some hf
        refine k_VI (As := []) C K_RX12_127 (by omega) (Nat.le_of_ble_eq_true rfl) (kX12_here l E q0 q0_now q0_hold q0_below q0_hay q0_weather q0_text q0_row q0_read q0_comes q0_rule q0_owedBy q0_undos q0_aside q0_acts q0_ring q0_bestRing q0_nets q0_worked q0_then q0_plan q0_bestPlan q0_tried q0_tracks q0_kept q0_isKept q0_keptCame n_read i_houses i_weatherMany i_typed i_rowMany i_thrown i_length i_top i_at i_wrong i_ruleSize i_isAsked i_askedInches i_askedPath i_askedDay i_askedRoof i_askedBelow i_askedLoose i_slidesMany i_owedNow i_slidInto i_undoMany i_bestLength i_setOff i_letLie i_trackMany i_came a_read o9 hg10) [0, 1] rfl rfl rfl (ci := 12) rfl rfl (q0 := 0) rfl hP hD hS hA hl.1 (Nat.le_of_ble_eq_true rfl) rfl dX12_sum_32 (fun H locs hP hD hS => ?_)
        have hP : va_P E.1 classes (WX12_held E q0 q0_now q0_hold q0_below q0_hay q0_weather q0_text q0_row q0_read q0_comes q0_rule q0_owedBy q0_undos q0_aside q0_acts q0_ring q0_bestRing q0_nets q0_worked q0_then q0_plan q0_bestPlan q0_tried q0_tracks q0_kept q0_isKept q0_keptCame n_read i_houses i_weatherMany i_typed i_rowMany i_thrown i_length i_top i_at i_wrong i_ruleSize i_isAsked i_askedInches i_askedPath i_askedDay i_askedRoof i_askedBelow i_askedLoose i_slidesMany i_owedNow i_slidInto i_undoMany i_bestLength i_setOff i_letLie i_trackMany i_came a_read a_hold a_weather) H := hP
        have hD : va_D A (WX12_held E q0 q0_now q0_hold q0_below q0_hay q0_weather q0_text q0_row q0_read q0_comes q0_rule q0_owedBy q0_undos q0_aside q0_acts q0_ring q0_bestRing q0_nets q0_worked q0_then q0_plan q0_bestPlan q0_tried q0_tracks q0_kept q0_isKept q0_keptCame n_read i_houses i_weatherMany i_typed i_rowMany i_thrown i_length i_top i_at i_wrong i_ruleSize i_isAsked i_askedInches i_askedPath i_askedDay i_askedRoof i_askedBelow i_askedLoose i_slidesMany i_owedNow i_slidInto i_undoMany i_bestLength i_setOff i_letLie i_trackMany i_came a_read a_hold a_weather) := hD
        refine lv_bipush (v := 43) hx hb dX12_sum_35 (by decide) ?_
        refine lv_icmp_ne (tgt := 44) hx hb dX12_sum_37 (by decide) (fun c11 => ?_) (fun c11 => ?_)
        · rw [if_neg c11] at hf
          refine lv_iconst (v := 0) hx hb dX12_sum_44 (by decide) ?_
          exact J45 v2 0 i_at i_wrong hf _ _ _ (lv_sub hl [0, 1, 2] rfl) hP hD hS
        · rw [if_pos c11] at hf
          refine lv_iconst (v := 1) hx hb dX12_sum_40 (by decide) ?_
          refine lv_goto (tgt := 45) hx hb dX12_sum_41 (by decide) ?_
          exact J45 v2 1 i_at i_wrong hf _ _ _ (lv_sub hl [0, 1, 2] rfl) hP hD hS
      intro H locs ls hl hP hD hS
      rw [fX12_sum_L6] at hf
      refine lv_aload_n hx hb dX12_sum_6 rfl (lv_at hl 0 rfl) ?_
      obtain ⟨o3, hg4, hf⟩ := bd_some hf
      refine k_VI (As := []) C K_RX12_123 (by omega) (Nat.le_of_ble_eq_true rfl) (kX12_fine l E q0 q0_now q0_hold q0_below q0_hay q0_weather q0_text q0_row q0_comes q0_rule q0_owedBy q0_undos q0_aside q0_acts q0_ring q0_bestRing q0_nets q0_worked q0_then q0_plan q0_bestPlan q0_tried q0_tracks q0_kept q0_isKept q0_keptCame i_houses i_weatherMany i_typed i_rowMany i_thrown ((.ref q0_read)) i_length i_top i_at i_wrong i_ruleSize i_isAsked i_askedInches i_askedPath i_askedDay i_askedRoof i_askedBelow i_askedLoose i_slidesMany i_owedNow i_slidInto i_undoMany i_bestLength i_setOff i_letLie i_trackMany i_came o3 hg4) [0] rfl rfl rfl (ci := 12) rfl rfl (q0 := 0) rfl hP hD hS hA hl.1 (Nat.le_of_ble_eq_true rfl) rfl dX12_sum_7 (fun H locs hP hD hS => ?_)
      have hP : va_P E.1 classes (WX12_held E q0 q0_now q0_hold q0_below q0_hay q0_weather q0_text q0_row q0_read q0_comes q0_rule q0_owedBy q0_undos q0_aside q0_acts q0_ring q0_bestRing q0_nets q0_worked q0_then q0_plan q0_bestPlan q0_tried q0_tracks q0_kept q0_isKept q0_keptCame n_read i_houses i_weatherMany i_typed i_rowMany i_thrown i_length i_top i_at i_wrong i_ruleSize i_isAsked i_askedInches i_askedPath i_askedDay i_askedRoof i_askedBelow i_askedLoose i_slidesMany i_owedNow i_slidInto i_undoMany i_bestLength i_setOff i_letLie i_trackMany i_came a_read a_hold a_weather) H := hP
      have hD : va_D A (WX12_held E q0 q0_now q0_hold q0_below q0_hay q0_weather q0_text q0_row q0_read q0_comes q0_rule q0_owedBy q0_undos q0_aside q0_acts q0_ring q0_bestRing q0_nets q0_worked q0_then q0_plan q0_bestPlan q0_tried q0_tracks q0_kept q0_isKept q0_keptCame n_read i_houses i_weatherMany i_typed i_rowMany i_thrown i_length i_top i_at i_wrong i_ruleSize i_isAsked i_askedInches i_askedPath i_askedDay i_askedRoof i_askedBelow i_askedLoose i_slidesMany i_owedNow i_slidInto i_undoMany i_bestLength i_setOff i_letLie i_trackMany i_came a_read a_hold a_weather) := hD
      refine lv_if_eq (tgt := 82) hx hb dX12_sum_10 (by decide) (fun c5 => ?_) (fun c5 => ?_)
      · rw [if_pos c5] at hf
        have hf := Option.some.inj hf
        subst hf
        exact hE _ _ _ (lv_sub hl [2] rfl) hP hD hS
      · rw [if_neg c5] at hf
        refine lv_aload_n hx hb dX12_sum_13 rfl (lv_at hl 0 rfl) ?_
        obtain ⟨o6, hg7, hf⟩ := bd_some hf
        refine k_VI (As := []) C K_RX12_127 (by omega) (Nat.le_of_ble_eq_true rfl) (kX12_here l E q0 q0_now q0_hold q0_below q0_hay q0_weather q0_text q0_row q0_read q0_comes q0_rule q0_owedBy q0_undos q0_aside q0_acts q0_ring q0_bestRing q0_nets q0_worked q0_then q0_plan q0_bestPlan q0_tried q0_tracks q0_kept q0_isKept q0_keptCame n_read i_houses i_weatherMany i_typed i_rowMany i_thrown i_length i_top i_at i_wrong i_ruleSize i_isAsked i_askedInches i_askedPath i_askedDay i_askedRoof i_askedBelow i_askedLoose i_slidesMany i_owedNow i_slidInto i_undoMany i_bestLength i_setOff i_letLie i_trackMany i_came a_read o6 hg7) [0, 1] rfl rfl rfl (ci := 12) rfl rfl (q0 := 0) rfl hP hD hS hA hl.1 (Nat.le_of_ble_eq_true rfl) rfl dX12_sum_14 (fun H locs hP hD hS => ?_)
        have hP : va_P E.1 classes (WX12_held E q0 q0_now q0_hold q0_below q0_hay q0_weather q0_text q0_row q0_read q0_comes q0_rule q0_owedBy q0_undos q0_aside q0_acts q0_ring q0_bestRing q0_nets q0_worked q0_then q0_plan q0_bestPlan q0_tried q0_tracks q0_kept q0_isKept q0_keptCame n_read i_houses i_weatherMany i_typed i_rowMany i_thrown i_length i_top i_at i_wrong i_ruleSize i_isAsked i_askedInches i_askedPath i_askedDay i_askedRoof i_askedBelow i_askedLoose i_slidesMany i_owedNow i_slidInto i_undoMany i_bestLength i_setOff i_letLie i_trackMany i_came a_read a_hold a_weather) H := hP
        have hD : va_D A (WX12_held E q0 q0_now q0_hold q0_below q0_hay q0_weather q0_text q0_row q0_read q0_comes q0_rule q0_owedBy q0_undos q0_aside q0_acts q0_ring q0_bestRing q0_nets q0_worked q0_then q0_plan q0_bestPlan q0_tried q0_tracks q0_kept q0_isKept q0_keptCame n_read i_houses i_weatherMany i_typed i_rowMany i_thrown i_length i_top i_at i_wrong i_ruleSize i_isAsked i_askedInches i_askedPath i_askedDay i_askedRoof i_askedBelow i_askedLoose i_slidesMany i_owedNow i_slidInto i_undoMany i_bestLength i_setOff i_letLie i_trackMany i_came a_read a_hold a_weather) := hD
        refine lv_bipush (v := 43) hx hb dX12_sum_17 (by decide) ?_
        refine lv_icmp_eq (tgt := 31) hx hb dX12_sum_19 (by decide) (fun c8 => ?_) (fun c8 => ?_)
        · rw [if_pos c8] at hf
          exact J31 v2 i_at i_wrong hf _ _ _ (lv_sub hl [0, 1, 2] rfl) hP hD hS
        · rw [if_neg c8] at hf
          refine lv_aload_n hx hb dX12_sum_22 rfl (lv_at hl 0 rfl) ?_
          obtain ⟨o15, hg16, hf⟩ := bd_some hf
          refine k_VI (As := []) C K_RX12_127 (by omega) (Nat.le_of_ble_eq_true rfl) (kX12_here l E q0 q0_now q0_hold q0_below q0_hay q0_weather q0_text q0_row q0_read q0_comes q0_rule q0_owedBy q0_undos q0_aside q0_acts q0_ring q0_bestRing q0_nets q0_worked q0_then q0_plan q0_bestPlan q0_tried q0_tracks q0_kept q0_isKept q0_keptCame n_read i_houses i_weatherMany i_typed i_rowMany i_thrown i_length i_top i_at i_wrong i_ruleSize i_isAsked i_askedInches i_askedPath i_askedDay i_askedRoof i_askedBelow i_askedLoose i_slidesMany i_owedNow i_slidInto i_undoMany i_bestLength i_setOff i_letLie i_trackMany i_came a_read o15 hg16) [0, 1] rfl rfl rfl (ci := 12) rfl rfl (q0 := 0) rfl hP hD hS hA hl.1 (Nat.le_of_ble_eq_true rfl) rfl dX12_sum_23 (fun H locs hP hD hS => ?_)
          have hP : va_P E.1 classes (WX12_held E q0 q0_now q0_hold q0_below q0_hay q0_weather q0_text q0_row q0_read q0_comes q0_rule q0_owedBy q0_undos q0_aside q0_acts q0_ring q0_bestRing q0_nets q0_worked q0_then q0_plan q0_bestPlan q0_tried q0_tracks q0_kept q0_isKept q0_keptCame n_read i_houses i_weatherMany i_typed i_rowMany i_thrown i_length i_top i_at i_wrong i_ruleSize i_isAsked i_askedInches i_askedPath i_askedDay i_askedRoof i_askedBelow i_askedLoose i_slidesMany i_owedNow i_slidInto i_undoMany i_bestLength i_setOff i_letLie i_trackMany i_came a_read a_hold a_weather) H := hP
          have hD : va_D A (WX12_held E q0 q0_now q0_hold q0_below q0_hay q0_weather q0_text q0_row q0_read q0_comes q0_rule q0_owedBy q0_undos q0_aside q0_acts q0_ring q0_bestRing q0_nets q0_worked q0_then q0_plan q0_bestPlan q0_tried q0_tracks q0_kept q0_isKept q0_keptCame n_read i_houses i_weatherMany i_typed i_rowMany i_thrown i_length i_top i_at i_wrong i_ruleSize i_isAsked i_askedInches i_askedPath i_askedDay i_askedRoof i_askedBelow i_askedLoose i_slidesMany i_owedNow i_slidInto i_undoMany i_bestLength i_setOff i_letLie i_trackMany i_came a_read a_hold a_weather) := hD
          refine lv_bipush (v := 45) hx hb dX12_sum_26 (by decide) ?_
          refine lv_icmp_ne (tgt := 82) hx hb dX12_sum_28 (by decide) (fun c17 => ?_) (fun c17 => ?_)
          · rw [if_neg c17] at hf
            have hf := Option.some.inj hf
            subst hf
            exact hE _ _ _ (lv_sub hl [2] rfl) hP hD hS
          · rw [if_pos c17] at hf
            exact J31 v2 i_at i_wrong hf _ _ _ (lv_sub hl [0, 1, 2] rfl) hP hD hS
  intro H locs ls hl hP hD hS
  have hl : lv_has ls 5 [(0, .ref q0), (1, .int p1)] := hl
  unfold fX12_sum_B at hf
  refine lv_aload_n hx hb dX12_sum_0 rfl (lv_at hl 0 rfl) ?_
  refine lv_iload_n hx hb dX12_sum_1 rfl (lv_at hl 1 rfl) ?_
  obtain ⟨o1, hg2, hf⟩ := bd_some hf
  refine k_VI (As := [.int p1]) C K_RX12_174 (Nat.lt_succ_self d) (Nat.le_of_ble_eq_true rfl) (hG2 q0 q0_now q0_hold q0_below q0_hay q0_weather q0_text q0_row q0_read q0_comes q0_rule q0_owedBy q0_undos q0_aside q0_acts q0_ring q0_bestRing q0_nets q0_worked q0_then q0_plan q0_bestPlan q0_tried q0_tracks q0_kept q0_isKept q0_keptCame n_read i_houses i_weatherMany i_typed i_rowMany i_thrown i_length i_top i_at i_wrong i_ruleSize i_isAsked i_askedInches i_askedPath i_askedDay i_askedRoof i_askedBelow i_askedLoose i_slidesMany i_owedNow i_slidInto i_undoMany i_bestLength i_setOff i_letLie i_trackMany i_came a_read a_hold a_weather p1 o1.1 o1.2.1 o1.2.2 hg2) [0, 1, 2, 3] rfl rfl rfl (ci := 12) rfl rfl (q0 := 0) rfl hP hD hS hA hl.1 (Nat.le_of_ble_eq_true rfl) rfl dX12_sum_2 (fun H locs hP hD hS => ?_)
  have hP : va_P E.1 classes (WX12_held E q0 q0_now q0_hold q0_below q0_hay q0_weather q0_text q0_row q0_read q0_comes q0_rule q0_owedBy q0_undos q0_aside q0_acts q0_ring q0_bestRing q0_nets q0_worked q0_then q0_plan q0_bestPlan q0_tried q0_tracks q0_kept q0_isKept q0_keptCame n_read i_houses i_weatherMany i_typed i_rowMany i_thrown i_length i_top o1.2.1 o1.2.2 i_ruleSize i_isAsked i_askedInches i_askedPath i_askedDay i_askedRoof i_askedBelow i_askedLoose i_slidesMany i_owedNow i_slidInto i_undoMany i_bestLength i_setOff i_letLie i_trackMany i_came a_read a_hold a_weather) H := hP
  have hD : va_D A (WX12_held E q0 q0_now q0_hold q0_below q0_hay q0_weather q0_text q0_row q0_read q0_comes q0_rule q0_owedBy q0_undos q0_aside q0_acts q0_ring q0_bestRing q0_nets q0_worked q0_then q0_plan q0_bestPlan q0_tried q0_tracks q0_kept q0_isKept q0_keptCame n_read i_houses i_weatherMany i_typed i_rowMany i_thrown i_length i_top o1.2.1 o1.2.2 i_ruleSize i_isAsked i_askedInches i_askedPath i_askedDay i_askedRoof i_askedBelow i_askedLoose i_slidesMany i_owedNow i_slidInto i_undoMany i_bestLength i_setOff i_letLie i_trackMany i_came a_read a_hold a_weather) := hD
  refine lv_istore_n (lv' := [(2, .int o1.1), (0, .ref q0), (1, .int p1)]) hx hb dX12_sum_5 rfl hl (by decide) rfl (fun ls hl => ?_)
  obtain ⟨o18, hg19, hf⟩ := bd_some hf
  refine L6 FU o1.1 o1.2.1 o1.2.2 o18 hg19 ?_ _ _ _ (lv_sub hl [1, 2, 0] rfl) hP hD hS
  intro H locs ls hl hP hD hS
  refine lv_iload_n hx hb dX12_sum_82 rfl (lv_at hl 0 rfl) ?_
  have hj0 := Option.some.inj hf
  obtain ⟨ha0, hj1⟩ := Prod.mk.inj hj0
  obtain ⟨ha1, hj2⟩ := Prod.mk.inj hj1
  subst ha0
  subst ha1
  subst hj2
  exact hret _ _ _ _ dX12_sum_83 rfl hP hD hS
theorem K_RX12_177 : KV RX12 177 yX12_thing cX12_thing 4 (some .int) 1 := ⟨Tg_mem 1567 (by decide +kernel) (by decide +kernel), Tg_mem 102 (by decide +kernel) (by decide +kernel), Tg_mem 1564 (by decide +kernel) (by decide +kernel), Tg_mem 1566 (by decide +kernel) (by decide +kernel), Tg_mem 52 (by decide +kernel) (by decide +kernel), by decide +kernel⟩
theorem dX12_product_0 : decode cX12_product 0 = .ok (.aload_n 0, 1) := by decide +kernel
theorem dX12_product_1 : decode cX12_product 1 = .ok (.iload_n 1, 1) := by decide +kernel
theorem dX12_product_2 : decode cX12_product 2 = .ok (.invokevirtual 177, 3) := by decide +kernel
theorem dX12_product_5 : decode cX12_product 5 = .ok (.istore_n 2, 1) := by decide +kernel
theorem dX12_product_6 : decode cX12_product 6 = .ok (.aload_n 0, 1) := by decide +kernel
theorem dX12_product_7 : decode cX12_product 7 = .ok (.invokevirtual 123, 3) := by decide +kernel
theorem dX12_product_10 : decode cX12_product 10 = .ok (.ifCond .eq 81, 3) := by decide +kernel
theorem dX12_product_13 : decode cX12_product 13 = .ok (.aload_n 0, 1) := by decide +kernel
theorem dX12_product_14 : decode cX12_product 14 = .ok (.invokevirtual 127, 3) := by decide +kernel
theorem dX12_product_17 : decode cX12_product 17 = .ok (.bipush 42, 2) := by decide +kernel
theorem dX12_product_19 : decode cX12_product 19 = .ok (.if_icmp .eq 12, 3) := by decide +kernel
theorem dX12_product_22 : decode cX12_product 22 = .ok (.aload_n 0, 1) := by decide +kernel
theorem dX12_product_23 : decode cX12_product 23 = .ok (.invokevirtual 127, 3) := by decide +kernel
theorem dX12_product_26 : decode cX12_product 26 = .ok (.bipush 47, 2) := by decide +kernel
theorem dX12_product_28 : decode cX12_product 28 = .ok (.if_icmp .ne 63, 3) := by decide +kernel
theorem dX12_product_31 : decode cX12_product 31 = .ok (.aload_n 0, 1) := by decide +kernel
theorem dX12_product_32 : decode cX12_product 32 = .ok (.invokevirtual 127, 3) := by decide +kernel
theorem dX12_product_35 : decode cX12_product 35 = .ok (.bipush 42, 2) := by decide +kernel
theorem dX12_product_37 : decode cX12_product 37 = .ok (.if_icmp .ne 7, 3) := by decide +kernel
theorem dX12_product_40 : decode cX12_product 40 = .ok (.iconst 1, 1) := by decide +kernel
theorem dX12_product_41 : decode cX12_product 41 = .ok (.goto 4, 3) := by decide +kernel
theorem dX12_product_44 : decode cX12_product 44 = .ok (.iconst 0, 1) := by decide +kernel
theorem dX12_product_45 : decode cX12_product 45 = .ok (.istore_n 3, 1) := by decide +kernel
theorem dX12_product_46 : decode cX12_product 46 = .ok (.aload_n 0, 1) := by decide +kernel
theorem dX12_product_47 : decode cX12_product 47 = .ok (.dup, 1) := by decide +kernel
theorem dX12_product_48 : decode cX12_product 48 = .ok (.getfield 117, 3) := by decide +kernel
theorem dX12_product_51 : decode cX12_product 51 = .ok (.iconst 1, 1) := by decide +kernel
theorem dX12_product_52 : decode cX12_product 52 = .ok (.iadd, 1) := by decide +kernel
theorem dX12_product_53 : decode cX12_product 53 = .ok (.putfield 117, 3) := by decide +kernel
theorem dX12_product_56 : decode cX12_product 56 = .ok (.aload_n 0, 1) := by decide +kernel
theorem dX12_product_57 : decode cX12_product 57 = .ok (.iload_n 1, 1) := by decide +kernel
theorem dX12_product_58 : decode cX12_product 58 = .ok (.invokevirtual 177, 3) := by decide +kernel
theorem dX12_product_61 : decode cX12_product 61 = .ok (.istore 4, 2) := by decide +kernel
theorem dX12_product_63 : decode cX12_product 63 = .ok (.iload_n 3, 1) := by decide +kernel
theorem dX12_product_64 : decode cX12_product 64 = .ok (.ifCond .eq 10, 3) := by decide +kernel
theorem dX12_product_67 : decode cX12_product 67 = .ok (.iload_n 2, 1) := by decide +kernel
theorem dX12_product_68 : decode cX12_product 68 = .ok (.iload 4, 2) := by decide +kernel
theorem dX12_product_70 : decode cX12_product 70 = .ok (.imul, 1) := by decide +kernel
theorem dX12_product_71 : decode cX12_product 71 = .ok (.goto 16, 3) := by decide +kernel
theorem dX12_product_74 : decode cX12_product 74 = .ok (.iload 4, 2) := by decide +kernel
theorem dX12_product_76 : decode cX12_product 76 = .ok (.ifCond .ne 7, 3) := by decide +kernel
theorem dX12_product_79 : decode cX12_product 79 = .ok (.iconst 0, 1) := by decide +kernel
theorem dX12_product_80 : decode cX12_product 80 = .ok (.goto 7, 3) := by decide +kernel
theorem dX12_product_83 : decode cX12_product 83 = .ok (.iload_n 2, 1) := by decide +kernel
theorem dX12_product_84 : decode cX12_product 84 = .ok (.iload 4, 2) := by decide +kernel
theorem dX12_product_86 : decode cX12_product 86 = .ok (.idiv, 1) := by decide +kernel
theorem dX12_product_87 : decode cX12_product 87 = .ok (.istore_n 2, 1) := by decide +kernel
theorem dX12_product_88 : decode cX12_product 88 = .ok (.goto (-82), 3) := by decide +kernel
theorem dX12_product_91 : decode cX12_product 91 = .ok (.iload_n 2, 1) := by decide +kernel
theorem dX12_product_92 : decode cX12_product 92 = .ok (.ireturn, 1) := by decide +kernel
set_option maxHeartbeats 4000000 in
set_option maxRecDepth 20000 in
theorem kX12_product_B (l : Launch) (E : ENV) (d : Nat) (hd9 : 3 ≤ d) (G : Nat → Nat → Int32 → Int32 → Int32 → Int32 → Int32 → Int32 → Int32 → Int32 → Int32 → Int32 → Int32 → Int32 → (Nat → Int32) → (Nat → Int32) → (Nat → Int32) → Int32 → Option (Int32 × Int32 × Int32)) (hG3 : ∀ (q0 : Nat) (q0_now : Nat) (q0_hold : Nat) (q0_below : Nat) (q0_hay : Nat) (q0_weather : Nat) (q0_text : Nat) (q0_row : Nat) (q0_read : Nat) (q0_comes : Nat) (q0_rule : Nat) (q0_owedBy : Nat) (q0_undos : Nat) (q0_aside : Nat) (q0_acts : Nat) (q0_ring : Nat) (q0_bestRing : Nat) (q0_nets : Nat) (q0_worked : Nat) (q0_then : Nat) (q0_plan : Nat) (q0_bestPlan : Nat) (q0_tried : Nat) (q0_tracks : Nat) (q0_kept : Nat) (q0_isKept : Nat) (q0_keptCame : Nat) (n_read : Nat) (i_houses : Int32) (i_weatherMany : Int32) (i_typed : Int32) (i_rowMany : Int32) (i_thrown : Int32) (i_length : Int32) (i_top : Int32) (i_at : Int32) (i_wrong : Int32) (i_ruleSize : Int32) (i_isAsked : Int32) (i_askedInches : Int32) (i_askedPath : Int32) (i_askedDay : Int32) (i_askedRoof : Int32) (i_askedBelow : Int32) (i_askedLoose : Int32) (i_slidesMany : Int32) (i_owedNow : Int32) (i_slidInto : Int32) (i_undoMany : Int32) (i_bestLength : Int32) (i_setOff : Int32) (i_letLie : Int32) (i_trackMany : Int32) (i_came : Int32) (a_read : Nat → Int32) (a_hold : Nat → Int32) (a_weather : Nat → Int32) (p1 : Int32) (r9 : Int32) (i_at9 : Int32) (i_wrong9 : Int32), G 3 n_read i_weatherMany i_length i_top i_at i_wrong i_isAsked i_askedInches i_askedPath i_askedDay i_askedRoof i_askedBelow i_askedLoose a_read a_hold a_weather p1 = some (r9, i_at9, i_wrong9) → CI l E yX12_thing cX12_thing 4 (some .int) d [.ref q0, .int p1] (WX12_held E q0 q0_now q0_hold q0_below q0_hay q0_weather q0_text q0_row q0_read q0_comes q0_rule q0_owedBy q0_undos q0_aside q0_acts q0_ring q0_bestRing q0_nets q0_worked q0_then q0_plan q0_bestPlan q0_tried q0_tracks q0_kept q0_isKept q0_keptCame n_read i_houses i_weatherMany i_typed i_rowMany i_thrown i_length i_top i_at i_wrong i_ruleSize i_isAsked i_askedInches i_askedPath i_askedDay i_askedRoof i_askedBelow i_askedLoose i_slidesMany i_owedNow i_slidInto i_undoMany i_bestLength i_setOff i_letLie i_trackMany i_came a_read a_hold a_weather) (WX12_held E q0 q0_now q0_hold q0_below q0_hay q0_weather q0_text q0_row q0_read q0_comes q0_rule q0_owedBy q0_undos q0_aside q0_acts q0_ring q0_bestRing q0_nets q0_worked q0_then q0_plan q0_bestPlan q0_tried q0_tracks q0_kept q0_isKept q0_keptCame n_read i_houses i_weatherMany i_typed i_rowMany i_thrown i_length i_top i_at9 i_wrong9 i_ruleSize i_isAsked i_askedInches i_askedPath i_askedDay i_askedRoof i_askedBelow i_askedLoose i_slidesMany i_owedNow i_slidInto i_undoMany i_bestLength i_setOff i_letLie i_trackMany i_came a_read a_hold a_weather) r9) (q0 : Nat) (q0_now : Nat) (q0_hold : Nat) (q0_below : Nat) (q0_hay : Nat) (q0_weather : Nat) (q0_text : Nat) (q0_row : Nat) (q0_read : Nat) (q0_comes : Nat) (q0_rule : Nat) (q0_owedBy : Nat) (q0_undos : Nat) (q0_aside : Nat) (q0_acts : Nat) (q0_ring : Nat) (q0_bestRing : Nat) (q0_nets : Nat) (q0_worked : Nat) (q0_then : Nat) (q0_plan : Nat) (q0_bestPlan : Nat) (q0_tried : Nat) (q0_tracks : Nat) (q0_kept : Nat) (q0_isKept : Nat) (q0_keptCame : Nat) (n_read : Nat) (i_houses : Int32) (i_weatherMany : Int32) (i_typed : Int32) (i_rowMany : Int32) (i_thrown : Int32) (i_length : Int32) (i_top : Int32) (i_at : Int32) (i_wrong : Int32) (i_ruleSize : Int32) (i_isAsked : Int32) (i_askedInches : Int32) (i_askedPath : Int32) (i_askedDay : Int32) (i_askedRoof : Int32) (i_askedBelow : Int32) (i_askedLoose : Int32) (i_slidesMany : Int32) (i_owedNow : Int32) (i_slidInto : Int32) (i_undoMany : Int32) (i_bestLength : Int32) (i_setOff : Int32) (i_letLie : Int32) (i_trackMany : Int32) (i_came : Int32) (a_read : Nat → Int32) (a_hold : Nat → Int32) (a_weather : Nat → Int32) (p1 : Int32) (r9 : Int32) (i_at9 : Int32) (i_wrong9 : Int32) (hf : fX12_product_B G n_read i_weatherMany i_length i_top i_at i_wrong i_isAsked i_askedInches i_askedPath i_askedDay i_askedRoof i_askedBelow i_askedLoose a_read a_hold a_weather p1 = some (r9, i_at9, i_wrong9)) : CI l E yX12_product cX12_product 5 (some .int) (d + 1) [.ref q0, .int p1] (WX12_held E q0 q0_now q0_hold q0_below q0_hay q0_weather q0_text q0_row q0_read q0_comes q0_rule q0_owedBy q0_undos q0_aside q0_acts q0_ring q0_bestRing q0_nets q0_worked q0_then q0_plan q0_bestPlan q0_tried q0_tracks q0_kept q0_isKept q0_keptCame n_read i_houses i_weatherMany i_typed i_rowMany i_thrown i_length i_top i_at i_wrong i_ruleSize i_isAsked i_askedInches i_askedPath i_askedDay i_askedRoof i_askedBelow i_askedLoose i_slidesMany i_owedNow i_slidInto i_undoMany i_bestLength i_setOff i_letLie i_trackMany i_came a_read a_hold a_weather) (WX12_held E q0 q0_now q0_hold q0_below q0_hay q0_weather q0_text q0_row q0_read q0_comes q0_rule q0_owedBy q0_undos q0_aside q0_acts q0_ring q0_bestRing q0_nets q0_worked q0_then q0_plan q0_bestPlan q0_tried q0_tracks q0_kept q0_isKept q0_keptCame n_read i_houses i_weatherMany i_typed i_rowMany i_thrown i_length i_top i_at9 i_wrong9 i_ruleSize i_isAsked i_askedInches i_askedPath i_askedDay i_askedRoof i_askedBelow i_askedLoose i_slidesMany i_owedNow i_slidInto i_undoMany i_bestLength i_setOff i_letLie i_trackMany i_came a_read a_hold a_weather) r9 := by
  refine begI (by decide +kernel) (Nat.le_of_ble_eq_true rfl) ?_
  intro p e s m args below meth c A Q C hA hret
  have hx := C.1
  have hb := C.2.1
  have L6 : ∀ (n : Nat) (v2 : Int32) (i_at : Int32) (i_wrong : Int32) (o : Int32 × Int32 × Int32), fX12_product_L6 G n_read i_weatherMany i_length i_top i_isAsked i_askedInches i_askedPath i_askedDay i_askedRoof i_askedBelow i_askedLoose a_read a_hold a_weather p1 n v2 i_at i_wrong = some o → (GO p l e (d + 1) s m args below meth c Q E A 5 91 [] [(2, .int o.1)] (WX12_held E q0 q0_now q0_hold q0_below q0_hay q0_weather q0_text q0_row q0_read q0_comes q0_rule q0_owedBy q0_undos q0_aside q0_acts q0_ring q0_bestRing q0_nets q0_worked q0_then q0_plan q0_bestPlan q0_tried q0_tracks q0_kept q0_isKept q0_keptCame n_read i_houses i_weatherMany i_typed i_rowMany i_thrown i_length i_top o.2.1 o.2.2 i_ruleSize i_isAsked i_askedInches i_askedPath i_askedDay i_askedRoof i_askedBelow i_askedLoose i_slidesMany i_owedNow i_slidInto i_undoMany i_bestLength i_setOff i_letLie i_trackMany i_came a_read a_hold a_weather)) → GO p l e (d + 1) s m args below meth c Q E A 5 6 [] [(0, .ref q0), (1, .int p1), (2, .int v2)] (WX12_held E q0 q0_now q0_hold q0_below q0_hay q0_weather q0_text q0_row q0_read q0_comes q0_rule q0_owedBy q0_undos q0_aside q0_acts q0_ring q0_bestRing q0_nets q0_worked q0_then q0_plan q0_bestPlan q0_tried q0_tracks q0_kept q0_isKept q0_keptCame n_read i_houses i_weatherMany i_typed i_rowMany i_thrown i_length i_top i_at i_wrong i_ruleSize i_isAsked i_askedInches i_askedPath i_askedDay i_askedRoof i_askedBelow i_askedLoose i_slidesMany i_owedNow i_slidInto i_undoMany i_bestLength i_setOff i_letLie i_trackMany i_came a_read a_hold a_weather) := by
    intro n
    induction n with
    | zero =>
      intro v2 i_at i_wrong o hf
      have hf : none = some o := hf
      cases hf
    | succ n ih =>
      intro v2 i_at i_wrong o hf hE
      have J45 : ∀ (v2 : Int32) (s0 : Int32) (i_at : Int32) (i_wrong : Int32), fX12_product_J45 (fX12_product_L6 G n_read i_weatherMany i_length i_top i_isAsked i_askedInches i_askedPath i_askedDay i_askedRoof i_askedBelow i_askedLoose a_read a_hold a_weather p1 n) G n_read i_weatherMany i_length i_top i_isAsked i_askedInches i_askedPath i_askedDay i_askedRoof i_askedBelow i_askedLoose a_read a_hold a_weather p1 v2 s0 i_at i_wrong = some o → GO p l e (d + 1) s m args below meth c Q E A 5 45 [.int s0] [(0, .ref q0), (1, .int p1), (2, .int v2)] (WX12_held E q0 q0_now q0_hold q0_below q0_hay q0_weather q0_text q0_row q0_read q0_comes q0_rule q0_owedBy q0_undos q0_aside q0_acts q0_ring q0_bestRing q0_nets q0_worked q0_then q0_plan q0_bestPlan q0_tried q0_tracks q0_kept q0_isKept q0_keptCame n_read i_houses i_weatherMany i_typed i_rowMany i_thrown i_length i_top i_at i_wrong i_ruleSize i_isAsked i_askedInches i_askedPath i_askedDay i_askedRoof i_askedBelow i_askedLoose i_slidesMany i_owedNow i_slidInto i_undoMany i_bestLength i_setOff i_letLie i_trackMany i_came a_read a_hold a_weather) := by
        intro v2 s0 i_at i_wrong hf H locs ls hl hP hD hS
        unfold fX12_product_J45 at hf
        refine lv_istore_n (lv' := [(3, .int s0), (0, .ref q0), (1, .int p1), (2, .int v2)]) hx hb dX12_product_45 rfl hl (by decide) rfl (fun ls hl => ?_)
        refine lv_aload_n hx hb dX12_product_46 rfl (lv_at hl 1 rfl) ?_
        refine lv_dup hx hb dX12_product_47 rfl ?_
        refine gf_RX12_117 C hP 0 rfl rfl dX12_product_48 ?_
        refine lv_iconst (v := 1) hx hb dX12_product_51 (by decide) ?_
        refine lv_iadd hx hb dX12_product_52 ?_
        refine pf_RX12_117 C hP hD hS 0 rfl (Nat.le_of_ble_eq_true rfl) dX12_product_53 (fun H locs hP hD hS => ?_)
        have hP : va_P E.1 classes (WX12_held E q0 q0_now q0_hold q0_below q0_hay q0_weather q0_text q0_row q0_read q0_comes q0_rule q0_owedBy q0_undos q0_aside q0_acts q0_ring q0_bestRing q0_nets q0_worked q0_then q0_plan q0_bestPlan q0_tried q0_tracks q0_kept q0_isKept q0_keptCame n_read i_houses i_weatherMany i_typed i_rowMany i_thrown i_length i_top ((i_at + 1)) i_wrong i_ruleSize i_isAsked i_askedInches i_askedPath i_askedDay i_askedRoof i_askedBelow i_askedLoose i_slidesMany i_owedNow i_slidInto i_undoMany i_bestLength i_setOff i_letLie i_trackMany i_came a_read a_hold a_weather) H := hP
        have hD : va_D A (WX12_held E q0 q0_now q0_hold q0_below q0_hay q0_weather q0_text q0_row q0_read q0_comes q0_rule q0_owedBy q0_undos q0_aside q0_acts q0_ring q0_bestRing q0_nets q0_worked q0_then q0_plan q0_bestPlan q0_tried q0_tracks q0_kept q0_isKept q0_keptCame n_read i_houses i_weatherMany i_typed i_rowMany i_thrown i_length i_top ((i_at + 1)) i_wrong i_ruleSize i_isAsked i_askedInches i_askedPath i_askedDay i_askedRoof i_askedBelow i_askedLoose i_slidesMany i_owedNow i_slidInto i_undoMany i_bestLength i_setOff i_letLie i_trackMany i_came a_read a_hold a_weather) := hD
        refine lv_aload_n hx hb dX12_product_56 rfl (lv_at hl 1 rfl) ?_
        refine lv_iload_n hx hb dX12_product_57 rfl (lv_at hl 2 rfl) ?_
        obtain ⟨o12, hg13, hf⟩ := bd_some hf
        refine k_VI (As := [.int p1]) C K_RX12_177 (Nat.lt_succ_self d) (Nat.le_of_ble_eq_true rfl) (hG3 q0 q0_now q0_hold q0_below q0_hay q0_weather q0_text q0_row q0_read q0_comes q0_rule q0_owedBy q0_undos q0_aside q0_acts q0_ring q0_bestRing q0_nets q0_worked q0_then q0_plan q0_bestPlan q0_tried q0_tracks q0_kept q0_isKept q0_keptCame n_read i_houses i_weatherMany i_typed i_rowMany i_thrown i_length i_top ((i_at + 1)) i_wrong i_ruleSize i_isAsked i_askedInches i_askedPath i_askedDay i_askedRoof i_askedBelow i_askedLoose i_slidesMany i_owedNow i_slidInto i_undoMany i_bestLength i_setOff i_letLie i_trackMany i_came a_read a_hold a_weather p1 o12.1 o12.2.1 o12.2.2 hg13) [0, 1, 2, 3] rfl rfl rfl (ci := 12) rfl rfl (q0 := 0) rfl hP hD hS hA hl.1 (Nat.le_of_ble_eq_true rfl) rfl dX12_product_58 (fun H locs hP hD hS => ?_)
        have hP : va_P E.1 classes (WX12_held E q0 q0_now q0_hold q0_below q0_hay q0_weather q0_text q0_row q0_read q0_comes q0_rule q0_owedBy q0_undos q0_aside q0_acts q0_ring q0_bestRing q0_nets q0_worked q0_then q0_plan q0_bestPlan q0_tried q0_tracks q0_kept q0_isKept q0_keptCame n_read i_houses i_weatherMany i_typed i_rowMany i_thrown i_length i_top o12.2.1 o12.2.2 i_ruleSize i_isAsked i_askedInches i_askedPath i_askedDay i_askedRoof i_askedBelow i_askedLoose i_slidesMany i_owedNow i_slidInto i_undoMany i_bestLength i_setOff i_letLie i_trackMany i_came a_read a_hold a_weather) H := hP
        have hD : va_D A (WX12_held E q0 q0_now q0_hold q0_below q0_hay q0_weather q0_text q0_row q0_read q0_comes q0_rule q0_owedBy q0_undos q0_aside q0_acts q0_ring q0_bestRing q0_nets q0_worked q0_then q0_plan q0_bestPlan q0_tried q0_tracks q0_kept q0_isKept q0_keptCame n_read i_houses i_weatherMany i_typed i_rowMany i_thrown i_length i_top o12.2.1 o12.2.2 i_ruleSize i_isAsked i_askedInches i_askedPath i_askedDay i_askedRoof i_askedBelow i_askedLoose i_slidesMany i_owedNow i_slidInto i_undoMany i_bestLength i_setOff i_letLie i_trackMany i_came a_read a_hold a_weather) := hD
        refine lv_istore (lv' := [(4, .int o12.1), (3, .int s0), (0, .ref q0), (1, .int p1), (2, .int v2)]) hx hb dX12_product_61 hl (by decide) rfl (fun ls hl => ?_)
        refine lv_iload_n hx hb dX12_product_63 rfl (lv_at hl 1 rfl) ?_
        refine lv_if_eq (tgt := 74) hx hb dX12_product_64 (by decide) (fun c14 => ?_) (fun c14 => ?_)
        · rw [if_pos c14] at hf
          refine lv_iload hx hb dX12_product_74 (lv_at hl 0 rfl) ?_
          refine lv_if_ne (tgt := 83) hx hb dX12_product_76 (by decide) (fun c15 => ?_) (fun c15 => ?_)
          · rw [if_neg c15] at hf
            refine lv_iload_n hx hb dX12_product_83 rfl (lv_at hl 4 rfl) ?_
            refine lv_iload hx hb dX12_product_84 (lv_at hl 0 rfl) ?_
            obtain ⟨g16, hf⟩ := gd_some hf
            refine lv_idiv hx hb dX12_product_86 (nz_ne g16) ?_
            refine lv_istore_n (lv' := [(2, .int ((v2 / o12.1))), (4, .int o12.1), (3, .int s0), (0, .ref q0), (1, .int p1)]) hx hb dX12_product_87 rfl hl (by decide) rfl (fun ls hl => ?_)
            refine lv_goto (tgt := 6) hx hb dX12_product_88 (by decide) ?_
            exact ih ((v2 / o12.1)) o12.2.1 o12.2.2 _ hf hE _ _ _ (lv_sub hl [3, 4, 0] rfl) hP hD hS
          · rw [if_pos c15] at hf
            refine lv_iconst (v := 0) hx hb dX12_product_79 (by decide) ?_
            refine lv_goto (tgt := 87) hx hb dX12_product_80 (by decide) ?_
            refine lv_istore_n (lv' := [(2, .int 0), (4, .int o12.1), (3, .int s0), (0, .ref q0), (1, .int p1)]) hx hb dX12_product_87 rfl hl (by decide) rfl (fun ls hl => ?_)
            refine lv_goto (tgt := 6) hx hb dX12_product_88 (by decide) ?_
            exact ih 0 o12.2.1 o12.2.2 _ hf hE _ _ _ (lv_sub hl [3, 4, 0] rfl) hP hD hS
        · rw [if_neg c14] at hf
          refine lv_iload_n hx hb dX12_product_67 rfl (lv_at hl 4 rfl) ?_
          refine lv_iload hx hb dX12_product_68 (lv_at hl 0 rfl) ?_
          refine lv_imul hx hb dX12_product_70 ?_
          refine lv_goto (tgt := 87) hx hb dX12_product_71 (by decide) ?_
          refine lv_istore_n (lv' := [(2, .int ((v2 * o12.1))), (4, .int o12.1), (3, .int s0), (0, .ref q0), (1, .int p1)]) hx hb dX12_product_87 rfl hl (by decide) rfl (fun ls hl => ?_)
          refine lv_goto (tgt := 6) hx hb dX12_product_88 (by decide) ?_
          exact ih ((v2 * o12.1)) o12.2.1 o12.2.2 _ hf hE _ _ _ (lv_sub hl [3, 4, 0] rfl) hP hD hS
      have J31 : ∀ (v2 : Int32) (i_at : Int32) (i_wrong : Int32), fX12_product_J31 (fX12_product_L6 G n_read i_weatherMany i_length i_top i_isAsked i_askedInches i_askedPath i_askedDay i_askedRoof i_askedBelow i_askedLoose a_read a_hold a_weather p1 n) G n_read i_weatherMany i_length i_top i_isAsked i_askedInches i_askedPath i_askedDay i_askedRoof i_askedBelow i_askedLoose a_read a_hold a_weather p1 v2 i_at i_wrong = some o → GO p l e (d + 1) s m args below meth c Q E A 5 31 [] [(0, .ref q0), (1, .int p1), (2, .int v2)] (WX12_held E q0 q0_now q0_hold q0_below q0_hay q0_weather q0_text q0_row q0_read q0_comes q0_rule q0_owedBy q0_undos q0_aside q0_acts q0_ring q0_bestRing q0_nets q0_worked q0_then q0_plan q0_bestPlan q0_tried q0_tracks q0_kept q0_isKept q0_keptCame n_read i_houses i_weatherMany i_typed i_rowMany i_thrown i_length i_top i_at i_wrong i_ruleSize i_isAsked i_askedInches i_askedPath i_askedDay i_askedRoof i_askedBelow i_askedLoose i_slidesMany i_owedNow i_slidInto i_undoMany i_bestLength i_setOff i_letLie i_trackMany i_came a_read a_hold a_weather) := by
        intro v2 i_at i_wrong hf H locs ls hl hP hD hS
        unfold fX12_product_J31 at hf
        refine lv_aload_n hx hb dX12_product_31 rfl (lv_at hl 0 rfl) ?_
        obtain ⟨o9, hg10, hf⟩ := bd_some hf
        refine k_VI (As := []) C K_RX12_127 (by omega) (Nat.le_of_ble_eq_true rfl) (kX12_here l E q0 q0_now q0_hold q0_below q0_hay q0_weather q0_text q0_row q0_read q0_comes q0_rule q0_owedBy q0_undos q0_aside q0_acts q0_ring q0_bestRing q0_nets q0_worked q0_then q0_plan q0_bestPlan q0_tried q0_tracks q0_kept q0_isKept q0_keptCame n_read i_houses i_weatherMany i_typed i_rowMany i_thrown i_length i_top i_at i_wrong i_ruleSize i_isAsked i_askedInches i_askedPath i_askedDay i_askedRoof i_askedBelow i_askedLoose i_slidesMany i_owedNow i_slidInto i_undoMany i_bestLength i_setOff i_letLie i_trackMany i_came a_read o9 hg10) [0, 1] rfl rfl rfl (ci := 12) rfl rfl (q0 := 0) rfl hP hD hS hA hl.1 (Nat.le_of_ble_eq_true rfl) rfl dX12_product_32 (fun H locs hP hD hS => ?_)
        have hP : va_P E.1 classes (WX12_held E q0 q0_now q0_hold q0_below q0_hay q0_weather q0_text q0_row q0_read q0_comes q0_rule q0_owedBy q0_undos q0_aside q0_acts q0_ring q0_bestRing q0_nets q0_worked q0_then q0_plan q0_bestPlan q0_tried q0_tracks q0_kept q0_isKept q0_keptCame n_read i_houses i_weatherMany i_typed i_rowMany i_thrown i_length i_top i_at i_wrong i_ruleSize i_isAsked i_askedInches i_askedPath i_askedDay i_askedRoof i_askedBelow i_askedLoose i_slidesMany i_owedNow i_slidInto i_undoMany i_bestLength i_setOff i_letLie i_trackMany i_came a_read a_hold a_weather) H := hP
        have hD : va_D A (WX12_held E q0 q0_now q0_hold q0_below q0_hay q0_weather q0_text q0_row q0_read q0_comes q0_rule q0_owedBy q0_undos q0_aside q0_acts q0_ring q0_bestRing q0_nets q0_worked q0_then q0_plan q0_bestPlan q0_tried q0_tracks q0_kept q0_isKept q0_keptCame n_read i_houses i_weatherMany i_typed i_rowMany i_thrown i_length i_top i_at i_wrong i_ruleSize i_isAsked i_askedInches i_askedPath i_askedDay i_askedRoof i_askedBelow i_askedLoose i_slidesMany i_owedNow i_slidInto i_undoMany i_bestLength i_setOff i_letLie i_trackMany i_came a_read a_hold a_weather) := hD
        refine lv_bipush (v := 42) hx hb dX12_product_35 (by decide) ?_
        refine lv_icmp_ne (tgt := 44) hx hb dX12_product_37 (by decide) (fun c11 => ?_) (fun c11 => ?_)
        · rw [if_neg c11] at hf
          refine lv_iconst (v := 0) hx hb dX12_product_44 (by decide) ?_
          exact J45 v2 0 i_at i_wrong hf _ _ _ (lv_sub hl [0, 1, 2] rfl) hP hD hS
        · rw [if_pos c11] at hf
          refine lv_iconst (v := 1) hx hb dX12_product_40 (by decide) ?_
          refine lv_goto (tgt := 45) hx hb dX12_product_41 (by decide) ?_
          exact J45 v2 1 i_at i_wrong hf _ _ _ (lv_sub hl [0, 1, 2] rfl) hP hD hS
      intro H locs ls hl hP hD hS
      rw [fX12_product_L6] at hf
      refine lv_aload_n hx hb dX12_product_6 rfl (lv_at hl 0 rfl) ?_
      obtain ⟨o3, hg4, hf⟩ := bd_some hf
      refine k_VI (As := []) C K_RX12_123 (by omega) (Nat.le_of_ble_eq_true rfl) (kX12_fine l E q0 q0_now q0_hold q0_below q0_hay q0_weather q0_text q0_row q0_comes q0_rule q0_owedBy q0_undos q0_aside q0_acts q0_ring q0_bestRing q0_nets q0_worked q0_then q0_plan q0_bestPlan q0_tried q0_tracks q0_kept q0_isKept q0_keptCame i_houses i_weatherMany i_typed i_rowMany i_thrown ((.ref q0_read)) i_length i_top i_at i_wrong i_ruleSize i_isAsked i_askedInches i_askedPath i_askedDay i_askedRoof i_askedBelow i_askedLoose i_slidesMany i_owedNow i_slidInto i_undoMany i_bestLength i_setOff i_letLie i_trackMany i_came o3 hg4) [0] rfl rfl rfl (ci := 12) rfl rfl (q0 := 0) rfl hP hD hS hA hl.1 (Nat.le_of_ble_eq_true rfl) rfl dX12_product_7 (fun H locs hP hD hS => ?_)
      have hP : va_P E.1 classes (WX12_held E q0 q0_now q0_hold q0_below q0_hay q0_weather q0_text q0_row q0_read q0_comes q0_rule q0_owedBy q0_undos q0_aside q0_acts q0_ring q0_bestRing q0_nets q0_worked q0_then q0_plan q0_bestPlan q0_tried q0_tracks q0_kept q0_isKept q0_keptCame n_read i_houses i_weatherMany i_typed i_rowMany i_thrown i_length i_top i_at i_wrong i_ruleSize i_isAsked i_askedInches i_askedPath i_askedDay i_askedRoof i_askedBelow i_askedLoose i_slidesMany i_owedNow i_slidInto i_undoMany i_bestLength i_setOff i_letLie i_trackMany i_came a_read a_hold a_weather) H := hP
      have hD : va_D A (WX12_held E q0 q0_now q0_hold q0_below q0_hay q0_weather q0_text q0_row q0_read q0_comes q0_rule q0_owedBy q0_undos q0_aside q0_acts q0_ring q0_bestRing q0_nets q0_worked q0_then q0_plan q0_bestPlan q0_tried q0_tracks q0_kept q0_isKept q0_keptCame n_read i_houses i_weatherMany i_typed i_rowMany i_thrown i_length i_top i_at i_wrong i_ruleSize i_isAsked i_askedInches i_askedPath i_askedDay i_askedRoof i_askedBelow i_askedLoose i_slidesMany i_owedNow i_slidInto i_undoMany i_bestLength i_setOff i_letLie i_trackMany i_came a_read a_hold a_weather) := hD
      refine lv_if_eq (tgt := 91) hx hb dX12_product_10 (by decide) (fun c5 => ?_) (fun c5 => ?_)
      · rw [if_pos c5] at hf
        have hf := Option.some.inj hf
        subst hf
        exact hE _ _ _ (lv_sub hl [2] rfl) hP hD hS
      · rw [if_neg c5] at hf
        refine lv_aload_n hx hb dX12_product_13 rfl (lv_at hl 0 rfl) ?_
        obtain ⟨o6, hg7, hf⟩ := bd_some hf
        refine k_VI (As := []) C K_RX12_127 (by omega) (Nat.le_of_ble_eq_true rfl) (kX12_here l E q0 q0_now q0_hold q0_below q0_hay q0_weather q0_text q0_row q0_read q0_comes q0_rule q0_owedBy q0_undos q0_aside q0_acts q0_ring q0_bestRing q0_nets q0_worked q0_then q0_plan q0_bestPlan q0_tried q0_tracks q0_kept q0_isKept q0_keptCame n_read i_houses i_weatherMany i_typed i_rowMany i_thrown i_length i_top i_at i_wrong i_ruleSize i_isAsked i_askedInches i_askedPath i_askedDay i_askedRoof i_askedBelow i_askedLoose i_slidesMany i_owedNow i_slidInto i_undoMany i_bestLength i_setOff i_letLie i_trackMany i_came a_read o6 hg7) [0, 1] rfl rfl rfl (ci := 12) rfl rfl (q0 := 0) rfl hP hD hS hA hl.1 (Nat.le_of_ble_eq_true rfl) rfl dX12_product_14 (fun H locs hP hD hS => ?_)
        have hP : va_P E.1 classes (WX12_held E q0 q0_now q0_hold q0_below q0_hay q0_weather q0_text q0_row q0_read q0_comes q0_rule q0_owedBy q0_undos q0_aside q0_acts q0_ring q0_bestRing q0_nets q0_worked q0_then q0_plan q0_bestPlan q0_tried q0_tracks q0_kept q0_isKept q0_keptCame n_read i_houses i_weatherMany i_typed i_rowMany i_thrown i_length i_top i_at i_wrong i_ruleSize i_isAsked i_askedInches i_askedPath i_askedDay i_askedRoof i_askedBelow i_askedLoose i_slidesMany i_owedNow i_slidInto i_undoMany i_bestLength i_setOff i_letLie i_trackMany i_came a_read a_hold a_weather) H := hP
        have hD : va_D A (WX12_held E q0 q0_now q0_hold q0_below q0_hay q0_weather q0_text q0_row q0_read q0_comes q0_rule q0_owedBy q0_undos q0_aside q0_acts q0_ring q0_bestRing q0_nets q0_worked q0_then q0_plan q0_bestPlan q0_tried q0_tracks q0_kept q0_isKept q0_keptCame n_read i_houses i_weatherMany i_typed i_rowMany i_thrown i_length i_top i_at i_wrong i_ruleSize i_isAsked i_askedInches i_askedPath i_askedDay i_askedRoof i_askedBelow i_askedLoose i_slidesMany i_owedNow i_slidInto i_undoMany i_bestLength i_setOff i_letLie i_trackMany i_came a_read a_hold a_weather) := hD
        refine lv_bipush (v := 42) hx hb dX12_product_17 (by decide) ?_
        refine lv_icmp_eq (tgt := 31) hx hb dX12_product_19 (by decide) (fun c8 => ?_) (fun c8 => ?_)
        · rw [if_pos c8] at hf
          exact J31 v2 i_at i_wrong hf _ _ _ (lv_sub hl [0, 1, 2] rfl) hP hD hS
        · rw [if_neg c8] at hf
          refine lv_aload_n hx hb dX12_product_22 rfl (lv_at hl 0 rfl) ?_
          obtain ⟨o17, hg18, hf⟩ := bd_some hf
          refine k_VI (As := []) C K_RX12_127 (by omega) (Nat.le_of_ble_eq_true rfl) (kX12_here l E q0 q0_now q0_hold q0_below q0_hay q0_weather q0_text q0_row q0_read q0_comes q0_rule q0_owedBy q0_undos q0_aside q0_acts q0_ring q0_bestRing q0_nets q0_worked q0_then q0_plan q0_bestPlan q0_tried q0_tracks q0_kept q0_isKept q0_keptCame n_read i_houses i_weatherMany i_typed i_rowMany i_thrown i_length i_top i_at i_wrong i_ruleSize i_isAsked i_askedInches i_askedPath i_askedDay i_askedRoof i_askedBelow i_askedLoose i_slidesMany i_owedNow i_slidInto i_undoMany i_bestLength i_setOff i_letLie i_trackMany i_came a_read o17 hg18) [0, 1] rfl rfl rfl (ci := 12) rfl rfl (q0 := 0) rfl hP hD hS hA hl.1 (Nat.le_of_ble_eq_true rfl) rfl dX12_product_23 (fun H locs hP hD hS => ?_)
          have hP : va_P E.1 classes (WX12_held E q0 q0_now q0_hold q0_below q0_hay q0_weather q0_text q0_row q0_read q0_comes q0_rule q0_owedBy q0_undos q0_aside q0_acts q0_ring q0_bestRing q0_nets q0_worked q0_then q0_plan q0_bestPlan q0_tried q0_tracks q0_kept q0_isKept q0_keptCame n_read i_houses i_weatherMany i_typed i_rowMany i_thrown i_length i_top i_at i_wrong i_ruleSize i_isAsked i_askedInches i_askedPath i_askedDay i_askedRoof i_askedBelow i_askedLoose i_slidesMany i_owedNow i_slidInto i_undoMany i_bestLength i_setOff i_letLie i_trackMany i_came a_read a_hold a_weather) H := hP
          have hD : va_D A (WX12_held E q0 q0_now q0_hold q0_below q0_hay q0_weather q0_text q0_row q0_read q0_comes q0_rule q0_owedBy q0_undos q0_aside q0_acts q0_ring q0_bestRing q0_nets q0_worked q0_then q0_plan q0_bestPlan q0_tried q0_tracks q0_kept q0_isKept q0_keptCame n_read i_houses i_weatherMany i_typed i_rowMany i_thrown i_length i_top i_at i_wrong i_ruleSize i_isAsked i_askedInches i_askedPath i_askedDay i_askedRoof i_askedBelow i_askedLoose i_slidesMany i_owedNow i_slidInto i_undoMany i_bestLength i_setOff i_letLie i_trackMany i_came a_read a_hold a_weather) := hD
          refine lv_bipush (v := 47) hx hb dX12_product_26 (by decide) ?_
          refine lv_icmp_ne (tgt := 91) hx hb dX12_product_28 (by decide) (fun c19 => ?_) (fun c19 => ?_)
          · rw [if_neg c19] at hf
            have hf := Option.some.inj hf
            subst hf
            exact hE _ _ _ (lv_sub hl [2] rfl) hP hD hS
          · rw [if_pos c19] at hf
            exact J31 v2 i_at i_wrong hf _ _ _ (lv_sub hl [0, 1, 2] rfl) hP hD hS
  intro H locs ls hl hP hD hS
  have hl : lv_has ls 5 [(0, .ref q0), (1, .int p1)] := hl
  unfold fX12_product_B at hf
  refine lv_aload_n hx hb dX12_product_0 rfl (lv_at hl 0 rfl) ?_
  refine lv_iload_n hx hb dX12_product_1 rfl (lv_at hl 1 rfl) ?_
  obtain ⟨o1, hg2, hf⟩ := bd_some hf
  refine k_VI (As := [.int p1]) C K_RX12_177 (Nat.lt_succ_self d) (Nat.le_of_ble_eq_true rfl) (hG3 q0 q0_now q0_hold q0_below q0_hay q0_weather q0_text q0_row q0_read q0_comes q0_rule q0_owedBy q0_undos q0_aside q0_acts q0_ring q0_bestRing q0_nets q0_worked q0_then q0_plan q0_bestPlan q0_tried q0_tracks q0_kept q0_isKept q0_keptCame n_read i_houses i_weatherMany i_typed i_rowMany i_thrown i_length i_top i_at i_wrong i_ruleSize i_isAsked i_askedInches i_askedPath i_askedDay i_askedRoof i_askedBelow i_askedLoose i_slidesMany i_owedNow i_slidInto i_undoMany i_bestLength i_setOff i_letLie i_trackMany i_came a_read a_hold a_weather p1 o1.1 o1.2.1 o1.2.2 hg2) [0, 1, 2, 3] rfl rfl rfl (ci := 12) rfl rfl (q0 := 0) rfl hP hD hS hA hl.1 (Nat.le_of_ble_eq_true rfl) rfl dX12_product_2 (fun H locs hP hD hS => ?_)
  have hP : va_P E.1 classes (WX12_held E q0 q0_now q0_hold q0_below q0_hay q0_weather q0_text q0_row q0_read q0_comes q0_rule q0_owedBy q0_undos q0_aside q0_acts q0_ring q0_bestRing q0_nets q0_worked q0_then q0_plan q0_bestPlan q0_tried q0_tracks q0_kept q0_isKept q0_keptCame n_read i_houses i_weatherMany i_typed i_rowMany i_thrown i_length i_top o1.2.1 o1.2.2 i_ruleSize i_isAsked i_askedInches i_askedPath i_askedDay i_askedRoof i_askedBelow i_askedLoose i_slidesMany i_owedNow i_slidInto i_undoMany i_bestLength i_setOff i_letLie i_trackMany i_came a_read a_hold a_weather) H := hP
  have hD : va_D A (WX12_held E q0 q0_now q0_hold q0_below q0_hay q0_weather q0_text q0_row q0_read q0_comes q0_rule q0_owedBy q0_undos q0_aside q0_acts q0_ring q0_bestRing q0_nets q0_worked q0_then q0_plan q0_bestPlan q0_tried q0_tracks q0_kept q0_isKept q0_keptCame n_read i_houses i_weatherMany i_typed i_rowMany i_thrown i_length i_top o1.2.1 o1.2.2 i_ruleSize i_isAsked i_askedInches i_askedPath i_askedDay i_askedRoof i_askedBelow i_askedLoose i_slidesMany i_owedNow i_slidInto i_undoMany i_bestLength i_setOff i_letLie i_trackMany i_came a_read a_hold a_weather) := hD
  refine lv_istore_n (lv' := [(2, .int o1.1), (0, .ref q0), (1, .int p1)]) hx hb dX12_product_5 rfl hl (by decide) rfl (fun ls hl => ?_)
  obtain ⟨o20, hg21, hf⟩ := bd_some hf
  refine L6 FU o1.1 o1.2.1 o1.2.2 o20 hg21 ?_ _ _ _ (lv_sub hl [1, 2, 0] rfl) hP hD hS
  intro H locs ls hl hP hD hS
  refine lv_iload_n hx hb dX12_product_91 rfl (lv_at hl 0 rfl) ?_
  have hj0 := Option.some.inj hf
  obtain ⟨ha0, hj1⟩ := Prod.mk.inj hj0
  obtain ⟨ha1, hj2⟩ := Prod.mk.inj hj1
  subst ha0
  subst ha1
  subst hj2
  exact hret _ _ _ _ dX12_product_92 rfl hP hD hS
theorem q1346 : Cond.fieldLink RX12 183 "SnowForSummerModel" "isAsked" "Z" ∈ Tg := Tg_mem 1346 (by decide +kernel) (by decide +kernel)
theorem gf_RX12_183 {p : Program} {l : Launch} {e : Env} {R : Room} {s : State} {m : MethodId} {args : Array Value} {below : List Frame} {meth : Method} {c : Code} {H : Heap} {locs : List Loc} {cells slots : Nat} {Q : State → Prop} {E : ENV} {cc : ByteArray} {n : Nat} {r : Option FieldType} {pc : Nat} {ls : Array Slot} {rest : List Value} {a : Nat} {ws : va_W} {nm ds : String} {fs : List Value} {A : Nat → Prop} {v : Value} (C : Cx E A ⟨RX12, nm, ds⟩ cc n r p s m args meth c) (hP : va_P E.1 classes ws H) (q0 : Nat) (he : ws[q0]? = some (a, .inr (12, fs))) (hv : fs[20]? = some v) (hdg : decode cc pc = .ok (.getfield 183, 3))
    (kk : W p l e R s m args below meth c H locs cells slots Q (F0 m (pc + 3) ls (v :: rest))) : W p l e R s m args below meth c H locs cells slots Q (F0 m pc ls (.ref a :: rest)) :=
  va_get (C := RX12) (T := TX12) (N := 52) (Ts := wl ⟨RX12, nm, ds⟩ cc n r) C.1 C.2.1 C.2.2.2.2.1 (fun w h => List.mem_cons_of_mem _ (inT12 w h)) C.2.2.2.1 C.2.2.2.2.2.1 hP q0 he rfl 20 (by decide) (C.2.2.2.2.1 _ (List.mem_cons_of_mem _ q1346)) (fun _ h9 => h9) hv hdg kk
theorem K_RX12_187 : KV RX12 187 yX12_letter cX12_letter 2 (some .int) 1 := ⟨Tg_mem 1571 (by decide +kernel) (by decide +kernel), Tg_mem 102 (by decide +kernel) (by decide +kernel), Tg_mem 1568 (by decide +kernel) (by decide +kernel), Tg_mem 1570 (by decide +kernel) (by decide +kernel), Tg_mem 53 (by decide +kernel) (by decide +kernel), by decide +kernel⟩
theorem K_RX12_180 : KV RX12 180 yX12_held cX12_held 3 (some .int) 1 := ⟨Tg_mem 1555 (by decide +kernel) (by decide +kernel), Tg_mem 102 (by decide +kernel) (by decide +kernel), Tg_mem 1552 (by decide +kernel) (by decide +kernel), Tg_mem 1554 (by decide +kernel) (by decide +kernel), Tg_mem 49 (by decide +kernel) (by decide +kernel), by decide +kernel⟩
theorem dX12_thing_0 : decode cX12_thing 0 = .ok (.aload_n 0, 1) := by decide +kernel
theorem dX12_thing_1 : decode cX12_thing 1 = .ok (.bipush 45, 2) := by decide +kernel
theorem dX12_thing_3 : decode cX12_thing 3 = .ok (.invokevirtual 131, 3) := by decide +kernel
theorem dX12_thing_6 : decode cX12_thing 6 = .ok (.ifCond .eq 10, 3) := by decide +kernel
theorem dX12_thing_9 : decode cX12_thing 9 = .ok (.aload_n 0, 1) := by decide +kernel
theorem dX12_thing_10 : decode cX12_thing 10 = .ok (.iload_n 1, 1) := by decide +kernel
theorem dX12_thing_11 : decode cX12_thing 11 = .ok (.invokevirtual 177, 3) := by decide +kernel
theorem dX12_thing_14 : decode cX12_thing 14 = .ok (.ineg, 1) := by decide +kernel
theorem dX12_thing_15 : decode cX12_thing 15 = .ok (.ireturn, 1) := by decide +kernel
theorem dX12_thing_16 : decode cX12_thing 16 = .ok (.aload_n 0, 1) := by decide +kernel
theorem dX12_thing_17 : decode cX12_thing 17 = .ok (.invokevirtual 123, 3) := by decide +kernel
theorem dX12_thing_20 : decode cX12_thing 20 = .ok (.ifCond .ne 5, 3) := by decide +kernel
theorem dX12_thing_23 : decode cX12_thing 23 = .ok (.iconst 0, 1) := by decide +kernel
theorem dX12_thing_24 : decode cX12_thing 24 = .ok (.ireturn, 1) := by decide +kernel
theorem dX12_thing_25 : decode cX12_thing 25 = .ok (.aload_n 0, 1) := by decide +kernel
theorem dX12_thing_26 : decode cX12_thing 26 = .ok (.invokevirtual 127, 3) := by decide +kernel
theorem dX12_thing_29 : decode cX12_thing 29 = .ok (.istore_n 2, 1) := by decide +kernel
theorem dX12_thing_30 : decode cX12_thing 30 = .ok (.iload_n 2, 1) := by decide +kernel
theorem dX12_thing_31 : decode cX12_thing 31 = .ok (.bipush 40, 2) := by decide +kernel
theorem dX12_thing_33 : decode cX12_thing 33 = .ok (.if_icmp .ne 34, 3) := by decide +kernel
theorem dX12_thing_36 : decode cX12_thing 36 = .ok (.iload_n 1, 1) := by decide +kernel
theorem dX12_thing_37 : decode cX12_thing 37 = .ok (.iconst 4, 1) := by decide +kernel
theorem dX12_thing_38 : decode cX12_thing 38 = .ok (.if_icmp .ge 29, 3) := by decide +kernel
theorem dX12_thing_41 : decode cX12_thing 41 = .ok (.aload_n 0, 1) := by decide +kernel
theorem dX12_thing_42 : decode cX12_thing 42 = .ok (.dup, 1) := by decide +kernel
theorem dX12_thing_43 : decode cX12_thing 43 = .ok (.getfield 117, 3) := by decide +kernel
theorem dX12_thing_46 : decode cX12_thing 46 = .ok (.iconst 1, 1) := by decide +kernel
theorem dX12_thing_47 : decode cX12_thing 47 = .ok (.iadd, 1) := by decide +kernel
theorem dX12_thing_48 : decode cX12_thing 48 = .ok (.putfield 117, 3) := by decide +kernel
theorem dX12_thing_51 : decode cX12_thing 51 = .ok (.aload_n 0, 1) := by decide +kernel
theorem dX12_thing_52 : decode cX12_thing 52 = .ok (.iload_n 1, 1) := by decide +kernel
theorem dX12_thing_53 : decode cX12_thing 53 = .ok (.iconst 1, 1) := by decide +kernel
theorem dX12_thing_54 : decode cX12_thing 54 = .ok (.iadd, 1) := by decide +kernel
theorem dX12_thing_55 : decode cX12_thing 55 = .ok (.invokevirtual 180, 3) := by decide +kernel
theorem dX12_thing_58 : decode cX12_thing 58 = .ok (.istore_n 3, 1) := by decide +kernel
theorem dX12_thing_59 : decode cX12_thing 59 = .ok (.aload_n 0, 1) := by decide +kernel
theorem dX12_thing_60 : decode cX12_thing 60 = .ok (.bipush 41, 2) := by decide +kernel
theorem dX12_thing_62 : decode cX12_thing 62 = .ok (.invokevirtual 147, 3) := by decide +kernel
theorem dX12_thing_65 : decode cX12_thing 65 = .ok (.iload_n 3, 1) := by decide +kernel
theorem dX12_thing_66 : decode cX12_thing 66 = .ok (.ireturn, 1) := by decide +kernel
theorem dX12_thing_67 : decode cX12_thing 67 = .ok (.iload_n 2, 1) := by decide +kernel
theorem dX12_thing_68 : decode cX12_thing 68 = .ok (.bipush 48, 2) := by decide +kernel
theorem dX12_thing_70 : decode cX12_thing 70 = .ok (.bipush 57, 2) := by decide +kernel
theorem dX12_thing_72 : decode cX12_thing 72 = .ok (.invokestatic 97, 3) := by decide +kernel
theorem dX12_thing_75 : decode cX12_thing 75 = .ok (.ifCond .eq 13, 3) := by decide +kernel
theorem dX12_thing_78 : decode cX12_thing 78 = .ok (.aload_n 0, 1) := by decide +kernel
theorem dX12_thing_79 : decode cX12_thing 79 = .ok (.iconst 3, 1) := by decide +kernel
theorem dX12_thing_80 : decode cX12_thing 80 = .ok (.iconst 0, 1) := by decide +kernel
theorem dX12_thing_81 : decode cX12_thing 81 = .ok (.sipush 999, 3) := by decide +kernel
theorem dX12_thing_84 : decode cX12_thing 84 = .ok (.invokevirtual 143, 3) := by decide +kernel
theorem dX12_thing_87 : decode cX12_thing 87 = .ok (.ireturn, 1) := by decide +kernel
theorem dX12_thing_88 : decode cX12_thing 88 = .ok (.iload_n 2, 1) := by decide +kernel
theorem dX12_thing_89 : decode cX12_thing 89 = .ok (.bipush 100, 2) := by decide +kernel
theorem dX12_thing_91 : decode cX12_thing 91 = .ok (.if_icmp .eq 55, 3) := by decide +kernel
theorem dX12_thing_94 : decode cX12_thing 94 = .ok (.iload_n 2, 1) := by decide +kernel
theorem dX12_thing_95 : decode cX12_thing 95 = .ok (.bipush 112, 2) := by decide +kernel
theorem dX12_thing_97 : decode cX12_thing 97 = .ok (.if_icmp .eq 49, 3) := by decide +kernel
theorem dX12_thing_100 : decode cX12_thing 100 = .ok (.iload_n 2, 1) := by decide +kernel
theorem dX12_thing_101 : decode cX12_thing 101 = .ok (.bipush 116, 2) := by decide +kernel
theorem dX12_thing_103 : decode cX12_thing 103 = .ok (.if_icmp .eq 43, 3) := by decide +kernel
theorem dX12_thing_106 : decode cX12_thing 106 = .ok (.iload_n 2, 1) := by decide +kernel
theorem dX12_thing_107 : decode cX12_thing 107 = .ok (.bipush 111, 2) := by decide +kernel
theorem dX12_thing_109 : decode cX12_thing 109 = .ok (.if_icmp .eq 37, 3) := by decide +kernel
theorem dX12_thing_112 : decode cX12_thing 112 = .ok (.iload_n 2, 1) := by decide +kernel
theorem dX12_thing_113 : decode cX12_thing 113 = .ok (.bipush 110, 2) := by decide +kernel
theorem dX12_thing_115 : decode cX12_thing 115 = .ok (.if_icmp .eq 31, 3) := by decide +kernel
theorem dX12_thing_118 : decode cX12_thing 118 = .ok (.iload_n 2, 1) := by decide +kernel
theorem dX12_thing_119 : decode cX12_thing 119 = .ok (.bipush 120, 2) := by decide +kernel
theorem dX12_thing_121 : decode cX12_thing 121 = .ok (.if_icmp .eq 25, 3) := by decide +kernel
theorem dX12_thing_124 : decode cX12_thing 124 = .ok (.iload_n 2, 1) := by decide +kernel
theorem dX12_thing_125 : decode cX12_thing 125 = .ok (.bipush 104, 2) := by decide +kernel
theorem dX12_thing_127 : decode cX12_thing 127 = .ok (.if_icmp .eq 19, 3) := by decide +kernel
theorem dX12_thing_130 : decode cX12_thing 130 = .ok (.iload_n 2, 1) := by decide +kernel
theorem dX12_thing_131 : decode cX12_thing 131 = .ok (.bipush 98, 2) := by decide +kernel
theorem dX12_thing_133 : decode cX12_thing 133 = .ok (.if_icmp .eq 13, 3) := by decide +kernel
theorem dX12_thing_136 : decode cX12_thing 136 = .ok (.aload_n 0, 1) := by decide +kernel
theorem dX12_thing_137 : decode cX12_thing 137 = .ok (.aload_n 0, 1) := by decide +kernel
theorem dX12_thing_138 : decode cX12_thing 138 = .ok (.getfield 117, 3) := by decide +kernel
theorem dX12_thing_141 : decode cX12_thing 141 = .ok (.invokevirtual 135, 3) := by decide +kernel
theorem dX12_thing_144 : decode cX12_thing 144 = .ok (.iconst 0, 1) := by decide +kernel
theorem dX12_thing_145 : decode cX12_thing 145 = .ok (.ireturn, 1) := by decide +kernel
theorem dX12_thing_146 : decode cX12_thing 146 = .ok (.aload_n 0, 1) := by decide +kernel
theorem dX12_thing_147 : decode cX12_thing 147 = .ok (.dup, 1) := by decide +kernel
theorem dX12_thing_148 : decode cX12_thing 148 = .ok (.getfield 117, 3) := by decide +kernel
theorem dX12_thing_151 : decode cX12_thing 151 = .ok (.iconst 1, 1) := by decide +kernel
theorem dX12_thing_152 : decode cX12_thing 152 = .ok (.iadd, 1) := by decide +kernel
theorem dX12_thing_153 : decode cX12_thing 153 = .ok (.putfield 117, 3) := by decide +kernel
theorem dX12_thing_156 : decode cX12_thing 156 = .ok (.aload_n 0, 1) := by decide +kernel
theorem dX12_thing_157 : decode cX12_thing 157 = .ok (.getfield 183, 3) := by decide +kernel
theorem dX12_thing_160 : decode cX12_thing 160 = .ok (.ifCond .eq 11, 3) := by decide +kernel
theorem dX12_thing_163 : decode cX12_thing 163 = .ok (.aload_n 0, 1) := by decide +kernel
theorem dX12_thing_164 : decode cX12_thing 164 = .ok (.iload_n 2, 1) := by decide +kernel
theorem dX12_thing_165 : decode cX12_thing 165 = .ok (.invokevirtual 187, 3) := by decide +kernel
theorem dX12_thing_168 : decode cX12_thing 168 = .ok (.goto 4, 3) := by decide +kernel
theorem dX12_thing_171 : decode cX12_thing 171 = .ok (.iconst 0, 1) := by decide +kernel
theorem dX12_thing_172 : decode cX12_thing 172 = .ok (.ireturn, 1) := by decide +kernel
set_option maxHeartbeats 4000000 in
set_option maxRecDepth 20000 in
theorem kX12_thing_B (l : Launch) (E : ENV) (d : Nat) (hd9 : 3 ≤ d) (G : Nat → Nat → Int32 → Int32 → Int32 → Int32 → Int32 → Int32 → Int32 → Int32 → Int32 → Int32 → Int32 → Int32 → (Nat → Int32) → (Nat → Int32) → (Nat → Int32) → Int32 → Option (Int32 × Int32 × Int32)) (hG0 : ∀ (q0 : Nat) (q0_now : Nat) (q0_hold : Nat) (q0_below : Nat) (q0_hay : Nat) (q0_weather : Nat) (q0_text : Nat) (q0_row : Nat) (q0_read : Nat) (q0_comes : Nat) (q0_rule : Nat) (q0_owedBy : Nat) (q0_undos : Nat) (q0_aside : Nat) (q0_acts : Nat) (q0_ring : Nat) (q0_bestRing : Nat) (q0_nets : Nat) (q0_worked : Nat) (q0_then : Nat) (q0_plan : Nat) (q0_bestPlan : Nat) (q0_tried : Nat) (q0_tracks : Nat) (q0_kept : Nat) (q0_isKept : Nat) (q0_keptCame : Nat) (n_read : Nat) (i_houses : Int32) (i_weatherMany : Int32) (i_typed : Int32) (i_rowMany : Int32) (i_thrown : Int32) (i_length : Int32) (i_top : Int32) (i_at : Int32) (i_wrong : Int32) (i_ruleSize : Int32) (i_isAsked : Int32) (i_askedInches : Int32) (i_askedPath : Int32) (i_askedDay : Int32) (i_askedRoof : Int32) (i_askedBelow : Int32) (i_askedLoose : Int32) (i_slidesMany : Int32) (i_owedNow : Int32) (i_slidInto : Int32) (i_undoMany : Int32) (i_bestLength : Int32) (i_setOff : Int32) (i_letLie : Int32) (i_trackMany : Int32) (i_came : Int32) (a_read : Nat → Int32) (a_hold : Nat → Int32) (a_weather : Nat → Int32) (p1 : Int32) (r9 : Int32) (i_at9 : Int32) (i_wrong9 : Int32), G 0 n_read i_weatherMany i_length i_top i_at i_wrong i_isAsked i_askedInches i_askedPath i_askedDay i_askedRoof i_askedBelow i_askedLoose a_read a_hold a_weather p1 = some (r9, i_at9, i_wrong9) → CI l E yX12_held cX12_held 3 (some .int) d [.ref q0, .int p1] (WX12_held E q0 q0_now q0_hold q0_below q0_hay q0_weather q0_text q0_row q0_read q0_comes q0_rule q0_owedBy q0_undos q0_aside q0_acts q0_ring q0_bestRing q0_nets q0_worked q0_then q0_plan q0_bestPlan q0_tried q0_tracks q0_kept q0_isKept q0_keptCame n_read i_houses i_weatherMany i_typed i_rowMany i_thrown i_length i_top i_at i_wrong i_ruleSize i_isAsked i_askedInches i_askedPath i_askedDay i_askedRoof i_askedBelow i_askedLoose i_slidesMany i_owedNow i_slidInto i_undoMany i_bestLength i_setOff i_letLie i_trackMany i_came a_read a_hold a_weather) (WX12_held E q0 q0_now q0_hold q0_below q0_hay q0_weather q0_text q0_row q0_read q0_comes q0_rule q0_owedBy q0_undos q0_aside q0_acts q0_ring q0_bestRing q0_nets q0_worked q0_then q0_plan q0_bestPlan q0_tried q0_tracks q0_kept q0_isKept q0_keptCame n_read i_houses i_weatherMany i_typed i_rowMany i_thrown i_length i_top i_at9 i_wrong9 i_ruleSize i_isAsked i_askedInches i_askedPath i_askedDay i_askedRoof i_askedBelow i_askedLoose i_slidesMany i_owedNow i_slidInto i_undoMany i_bestLength i_setOff i_letLie i_trackMany i_came a_read a_hold a_weather) r9) (hG3 : ∀ (q0 : Nat) (q0_now : Nat) (q0_hold : Nat) (q0_below : Nat) (q0_hay : Nat) (q0_weather : Nat) (q0_text : Nat) (q0_row : Nat) (q0_read : Nat) (q0_comes : Nat) (q0_rule : Nat) (q0_owedBy : Nat) (q0_undos : Nat) (q0_aside : Nat) (q0_acts : Nat) (q0_ring : Nat) (q0_bestRing : Nat) (q0_nets : Nat) (q0_worked : Nat) (q0_then : Nat) (q0_plan : Nat) (q0_bestPlan : Nat) (q0_tried : Nat) (q0_tracks : Nat) (q0_kept : Nat) (q0_isKept : Nat) (q0_keptCame : Nat) (n_read : Nat) (i_houses : Int32) (i_weatherMany : Int32) (i_typed : Int32) (i_rowMany : Int32) (i_thrown : Int32) (i_length : Int32) (i_top : Int32) (i_at : Int32) (i_wrong : Int32) (i_ruleSize : Int32) (i_isAsked : Int32) (i_askedInches : Int32) (i_askedPath : Int32) (i_askedDay : Int32) (i_askedRoof : Int32) (i_askedBelow : Int32) (i_askedLoose : Int32) (i_slidesMany : Int32) (i_owedNow : Int32) (i_slidInto : Int32) (i_undoMany : Int32) (i_bestLength : Int32) (i_setOff : Int32) (i_letLie : Int32) (i_trackMany : Int32) (i_came : Int32) (a_read : Nat → Int32) (a_hold : Nat → Int32) (a_weather : Nat → Int32) (p1 : Int32) (r9 : Int32) (i_at9 : Int32) (i_wrong9 : Int32), G 3 n_read i_weatherMany i_length i_top i_at i_wrong i_isAsked i_askedInches i_askedPath i_askedDay i_askedRoof i_askedBelow i_askedLoose a_read a_hold a_weather p1 = some (r9, i_at9, i_wrong9) → CI l E yX12_thing cX12_thing 4 (some .int) d [.ref q0, .int p1] (WX12_held E q0 q0_now q0_hold q0_below q0_hay q0_weather q0_text q0_row q0_read q0_comes q0_rule q0_owedBy q0_undos q0_aside q0_acts q0_ring q0_bestRing q0_nets q0_worked q0_then q0_plan q0_bestPlan q0_tried q0_tracks q0_kept q0_isKept q0_keptCame n_read i_houses i_weatherMany i_typed i_rowMany i_thrown i_length i_top i_at i_wrong i_ruleSize i_isAsked i_askedInches i_askedPath i_askedDay i_askedRoof i_askedBelow i_askedLoose i_slidesMany i_owedNow i_slidInto i_undoMany i_bestLength i_setOff i_letLie i_trackMany i_came a_read a_hold a_weather) (WX12_held E q0 q0_now q0_hold q0_below q0_hay q0_weather q0_text q0_row q0_read q0_comes q0_rule q0_owedBy q0_undos q0_aside q0_acts q0_ring q0_bestRing q0_nets q0_worked q0_then q0_plan q0_bestPlan q0_tried q0_tracks q0_kept q0_isKept q0_keptCame n_read i_houses i_weatherMany i_typed i_rowMany i_thrown i_length i_top i_at9 i_wrong9 i_ruleSize i_isAsked i_askedInches i_askedPath i_askedDay i_askedRoof i_askedBelow i_askedLoose i_slidesMany i_owedNow i_slidInto i_undoMany i_bestLength i_setOff i_letLie i_trackMany i_came a_read a_hold a_weather) r9) (q0 : Nat) (q0_now : Nat) (q0_hold : Nat) (q0_below : Nat) (q0_hay : Nat) (q0_weather : Nat) (q0_text : Nat) (q0_row : Nat) (q0_read : Nat) (q0_comes : Nat) (q0_rule : Nat) (q0_owedBy : Nat) (q0_undos : Nat) (q0_aside : Nat) (q0_acts : Nat) (q0_ring : Nat) (q0_bestRing : Nat) (q0_nets : Nat) (q0_worked : Nat) (q0_then : Nat) (q0_plan : Nat) (q0_bestPlan : Nat) (q0_tried : Nat) (q0_tracks : Nat) (q0_kept : Nat) (q0_isKept : Nat) (q0_keptCame : Nat) (n_read : Nat) (i_houses : Int32) (i_weatherMany : Int32) (i_typed : Int32) (i_rowMany : Int32) (i_thrown : Int32) (i_length : Int32) (i_top : Int32) (i_at : Int32) (i_wrong : Int32) (i_ruleSize : Int32) (i_isAsked : Int32) (i_askedInches : Int32) (i_askedPath : Int32) (i_askedDay : Int32) (i_askedRoof : Int32) (i_askedBelow : Int32) (i_askedLoose : Int32) (i_slidesMany : Int32) (i_owedNow : Int32) (i_slidInto : Int32) (i_undoMany : Int32) (i_bestLength : Int32) (i_setOff : Int32) (i_letLie : Int32) (i_trackMany : Int32) (i_came : Int32) (a_read : Nat → Int32) (a_hold : Nat → Int32) (a_weather : Nat → Int32) (p1 : Int32) (r9 : Int32) (i_at9 : Int32) (i_wrong9 : Int32) (hf : fX12_thing_B G n_read i_weatherMany i_length i_top i_at i_wrong i_isAsked i_askedInches i_askedPath i_askedDay i_askedRoof i_askedBelow i_askedLoose a_read a_hold a_weather p1 = some (r9, i_at9, i_wrong9)) : CI l E yX12_thing cX12_thing 4 (some .int) (d + 1) [.ref q0, .int p1] (WX12_held E q0 q0_now q0_hold q0_below q0_hay q0_weather q0_text q0_row q0_read q0_comes q0_rule q0_owedBy q0_undos q0_aside q0_acts q0_ring q0_bestRing q0_nets q0_worked q0_then q0_plan q0_bestPlan q0_tried q0_tracks q0_kept q0_isKept q0_keptCame n_read i_houses i_weatherMany i_typed i_rowMany i_thrown i_length i_top i_at i_wrong i_ruleSize i_isAsked i_askedInches i_askedPath i_askedDay i_askedRoof i_askedBelow i_askedLoose i_slidesMany i_owedNow i_slidInto i_undoMany i_bestLength i_setOff i_letLie i_trackMany i_came a_read a_hold a_weather) (WX12_held E q0 q0_now q0_hold q0_below q0_hay q0_weather q0_text q0_row q0_read q0_comes q0_rule q0_owedBy q0_undos q0_aside q0_acts q0_ring q0_bestRing q0_nets q0_worked q0_then q0_plan q0_bestPlan q0_tried q0_tracks q0_kept q0_isKept q0_keptCame n_read i_houses i_weatherMany i_typed i_rowMany i_thrown i_length i_top i_at9 i_wrong9 i_ruleSize i_isAsked i_askedInches i_askedPath i_askedDay i_askedRoof i_askedBelow i_askedLoose i_slidesMany i_owedNow i_slidInto i_undoMany i_bestLength i_setOff i_letLie i_trackMany i_came a_read a_hold a_weather) r9 := by
  refine begI (by decide +kernel) (Nat.le_of_ble_eq_true rfl) ?_
  intro p e s m args below meth c A Q C hA hret
  have hx := C.1
  have hb := C.2.1
  have J146 : ∀ (v2 : Int32) (i_at : Int32) (i_wrong : Int32), fX12_thing_J146 i_weatherMany i_isAsked i_askedInches i_askedPath i_askedDay i_askedRoof i_askedBelow i_askedLoose a_hold a_weather v2 i_at i_wrong = some (r9, i_at9, i_wrong9) → GO p l e (d + 1) s m args below meth c Q E A 4 146 [] [(0, .ref q0), (2, .int v2)] (WX12_held E q0 q0_now q0_hold q0_below q0_hay q0_weather q0_text q0_row q0_read q0_comes q0_rule q0_owedBy q0_undos q0_aside q0_acts q0_ring q0_bestRing q0_nets q0_worked q0_then q0_plan q0_bestPlan q0_tried q0_tracks q0_kept q0_isKept q0_keptCame n_read i_houses i_weatherMany i_typed i_rowMany i_thrown i_length i_top i_at i_wrong i_ruleSize i_isAsked i_askedInches i_askedPath i_askedDay i_askedRoof i_askedBelow i_askedLoose i_slidesMany i_owedNow i_slidInto i_undoMany i_bestLength i_setOff i_letLie i_trackMany i_came a_read a_hold a_weather) := by
    intro v2 i_at i_wrong hf H locs ls hl hP hD hS
    unfold fX12_thing_J146 at hf
    refine lv_aload_n hx hb dX12_thing_146 rfl (lv_at hl 0 rfl) ?_
    refine lv_dup hx hb dX12_thing_147 rfl ?_
    refine gf_RX12_117 C hP 0 rfl rfl dX12_thing_148 ?_
    refine lv_iconst (v := 1) hx hb dX12_thing_151 (by decide) ?_
    refine lv_iadd hx hb dX12_thing_152 ?_
    refine pf_RX12_117 C hP hD hS 0 rfl (Nat.le_of_ble_eq_true rfl) dX12_thing_153 (fun H locs hP hD hS => ?_)
    have hP : va_P E.1 classes (WX12_held E q0 q0_now q0_hold q0_below q0_hay q0_weather q0_text q0_row q0_read q0_comes q0_rule q0_owedBy q0_undos q0_aside q0_acts q0_ring q0_bestRing q0_nets q0_worked q0_then q0_plan q0_bestPlan q0_tried q0_tracks q0_kept q0_isKept q0_keptCame n_read i_houses i_weatherMany i_typed i_rowMany i_thrown i_length i_top ((i_at + 1)) i_wrong i_ruleSize i_isAsked i_askedInches i_askedPath i_askedDay i_askedRoof i_askedBelow i_askedLoose i_slidesMany i_owedNow i_slidInto i_undoMany i_bestLength i_setOff i_letLie i_trackMany i_came a_read a_hold a_weather) H := hP
    have hD : va_D A (WX12_held E q0 q0_now q0_hold q0_below q0_hay q0_weather q0_text q0_row q0_read q0_comes q0_rule q0_owedBy q0_undos q0_aside q0_acts q0_ring q0_bestRing q0_nets q0_worked q0_then q0_plan q0_bestPlan q0_tried q0_tracks q0_kept q0_isKept q0_keptCame n_read i_houses i_weatherMany i_typed i_rowMany i_thrown i_length i_top ((i_at + 1)) i_wrong i_ruleSize i_isAsked i_askedInches i_askedPath i_askedDay i_askedRoof i_askedBelow i_askedLoose i_slidesMany i_owedNow i_slidInto i_undoMany i_bestLength i_setOff i_letLie i_trackMany i_came a_read a_hold a_weather) := hD
    refine lv_aload_n hx hb dX12_thing_156 rfl (lv_at hl 0 rfl) ?_
    refine gf_RX12_183 C hP 0 rfl rfl dX12_thing_157 ?_
    refine lv_if_eq (tgt := 171) hx hb dX12_thing_160 (by decide) (fun c14 => ?_) (fun c14 => ?_)
    · rw [if_pos c14] at hf
      refine lv_iconst (v := 0) hx hb dX12_thing_171 (by decide) ?_
      have hj0 := Option.some.inj hf
      obtain ⟨ha0, hj1⟩ := Prod.mk.inj hj0
      obtain ⟨ha1, hj2⟩ := Prod.mk.inj hj1
      subst ha0
      subst ha1
      subst hj2
      exact hret _ _ _ _ dX12_thing_172 rfl hP hD hS
    · rw [if_neg c14] at hf
      refine lv_aload_n hx hb dX12_thing_163 rfl (lv_at hl 0 rfl) ?_
      refine lv_iload_n hx hb dX12_thing_164 rfl (lv_at hl 1 rfl) ?_
      obtain ⟨o15, hg16, hf⟩ := bd_some hf
      refine k_VI (As := [.int v2]) C K_RX12_187 (by omega) (Nat.le_of_ble_eq_true rfl) (kX12_letter l E q0 q0_now q0_hold q0_below q0_hay q0_weather q0_text q0_row q0_comes q0_rule q0_owedBy q0_undos q0_aside q0_acts q0_ring q0_bestRing q0_nets q0_worked q0_then q0_plan q0_bestPlan q0_tried q0_tracks q0_kept q0_isKept q0_keptCame i_houses i_weatherMany i_typed i_rowMany i_thrown ((.ref q0_read)) i_length i_top ((i_at + 1)) i_wrong i_ruleSize i_isAsked i_askedInches i_askedPath i_askedDay i_askedRoof i_askedBelow i_askedLoose i_slidesMany i_owedNow i_slidInto i_undoMany i_bestLength i_setOff i_letLie i_trackMany i_came a_hold a_weather v2 o15 hg16) [0, 2, 3] rfl rfl rfl (ci := 12) rfl rfl (q0 := 0) rfl hP hD hS hA hl.1 (Nat.le_of_ble_eq_true rfl) rfl dX12_thing_165 (fun H locs hP hD hS => ?_)
      have hP : va_P E.1 classes (WX12_held E q0 q0_now q0_hold q0_below q0_hay q0_weather q0_text q0_row q0_read q0_comes q0_rule q0_owedBy q0_undos q0_aside q0_acts q0_ring q0_bestRing q0_nets q0_worked q0_then q0_plan q0_bestPlan q0_tried q0_tracks q0_kept q0_isKept q0_keptCame n_read i_houses i_weatherMany i_typed i_rowMany i_thrown i_length i_top ((i_at + 1)) i_wrong i_ruleSize i_isAsked i_askedInches i_askedPath i_askedDay i_askedRoof i_askedBelow i_askedLoose i_slidesMany i_owedNow i_slidInto i_undoMany i_bestLength i_setOff i_letLie i_trackMany i_came a_read a_hold a_weather) H := hP
      have hD : va_D A (WX12_held E q0 q0_now q0_hold q0_below q0_hay q0_weather q0_text q0_row q0_read q0_comes q0_rule q0_owedBy q0_undos q0_aside q0_acts q0_ring q0_bestRing q0_nets q0_worked q0_then q0_plan q0_bestPlan q0_tried q0_tracks q0_kept q0_isKept q0_keptCame n_read i_houses i_weatherMany i_typed i_rowMany i_thrown i_length i_top ((i_at + 1)) i_wrong i_ruleSize i_isAsked i_askedInches i_askedPath i_askedDay i_askedRoof i_askedBelow i_askedLoose i_slidesMany i_owedNow i_slidInto i_undoMany i_bestLength i_setOff i_letLie i_trackMany i_came a_read a_hold a_weather) := hD
      refine lv_goto (tgt := 172) hx hb dX12_thing_168 (by decide) ?_
      have hj0 := Option.some.inj hf
      obtain ⟨ha0, hj1⟩ := Prod.mk.inj hj0
      obtain ⟨ha1, hj2⟩ := Prod.mk.inj hj1
      subst ha0
      subst ha1
      subst hj2
      exact hret _ _ _ _ dX12_thing_172 rfl hP hD hS
  have J67 : ∀ (v2 : Int32) (i_at : Int32) (i_wrong : Int32), fX12_thing_J67 n_read i_weatherMany i_length i_top i_isAsked i_askedInches i_askedPath i_askedDay i_askedRoof i_askedBelow i_askedLoose a_read a_hold a_weather v2 i_at i_wrong = some (r9, i_at9, i_wrong9) → GO p l e (d + 1) s m args below meth c Q E A 4 67 [] [(0, .ref q0), (2, .int v2)] (WX12_held E q0 q0_now q0_hold q0_below q0_hay q0_weather q0_text q0_row q0_read q0_comes q0_rule q0_owedBy q0_undos q0_aside q0_acts q0_ring q0_bestRing q0_nets q0_worked q0_then q0_plan q0_bestPlan q0_tried q0_tracks q0_kept q0_isKept q0_keptCame n_read i_houses i_weatherMany i_typed i_rowMany i_thrown i_length i_top i_at i_wrong i_ruleSize i_isAsked i_askedInches i_askedPath i_askedDay i_askedRoof i_askedBelow i_askedLoose i_slidesMany i_owedNow i_slidInto i_undoMany i_bestLength i_setOff i_letLie i_trackMany i_came a_read a_hold a_weather) := by
    intro v2 i_at i_wrong hf H locs ls hl hP hD hS
    unfold fX12_thing_J67 at hf
    refine lv_iload_n hx hb dX12_thing_67 rfl (lv_at hl 1 rfl) ?_
    refine lv_bipush (v := 48) hx hb dX12_thing_68 (by decide) ?_
    refine lv_bipush (v := 57) hx hb dX12_thing_70 (by decide) ?_
    obtain ⟨o10, hg11, hf⟩ := bd_some hf
    refine k_SI (As := [.int v2, .int 48, .int 57]) C K_RX12_97 (by omega) (Nat.le_of_ble_eq_true rfl) (kX12_in l E v2 48 57 o10 hg11) [] rfl rfl rfl  hP hD hS hA hl.1 (Nat.le_of_ble_eq_true rfl) rfl dX12_thing_72 (fun H locs hP hD hS => ?_)
    have hP : va_P E.1 classes (WX12_held E q0 q0_now q0_hold q0_below q0_hay q0_weather q0_text q0_row q0_read q0_comes q0_rule q0_owedBy q0_undos q0_aside q0_acts q0_ring q0_bestRing q0_nets q0_worked q0_then q0_plan q0_bestPlan q0_tried q0_tracks q0_kept q0_isKept q0_keptCame n_read i_houses i_weatherMany i_typed i_rowMany i_thrown i_length i_top i_at i_wrong i_ruleSize i_isAsked i_askedInches i_askedPath i_askedDay i_askedRoof i_askedBelow i_askedLoose i_slidesMany i_owedNow i_slidInto i_undoMany i_bestLength i_setOff i_letLie i_trackMany i_came a_read a_hold a_weather) H := hP
    have hD : va_D A (WX12_held E q0 q0_now q0_hold q0_below q0_hay q0_weather q0_text q0_row q0_read q0_comes q0_rule q0_owedBy q0_undos q0_aside q0_acts q0_ring q0_bestRing q0_nets q0_worked q0_then q0_plan q0_bestPlan q0_tried q0_tracks q0_kept q0_isKept q0_keptCame n_read i_houses i_weatherMany i_typed i_rowMany i_thrown i_length i_top i_at i_wrong i_ruleSize i_isAsked i_askedInches i_askedPath i_askedDay i_askedRoof i_askedBelow i_askedLoose i_slidesMany i_owedNow i_slidInto i_undoMany i_bestLength i_setOff i_letLie i_trackMany i_came a_read a_hold a_weather) := hD
    refine lv_if_eq (tgt := 88) hx hb dX12_thing_75 (by decide) (fun c12 => ?_) (fun c12 => ?_)
    · rw [if_pos c12] at hf
      refine lv_iload_n hx hb dX12_thing_88 rfl (lv_at hl 1 rfl) ?_
      refine lv_bipush (v := 100) hx hb dX12_thing_89 (by decide) ?_
      refine lv_icmp_eq (tgt := 146) hx hb dX12_thing_91 (by decide) (fun c13 => ?_) (fun c13 => ?_)
      · rw [if_pos c13] at hf
        exact J146 v2 i_at i_wrong hf _ _ _ (lv_sub hl [0, 1] rfl) hP hD hS
      · rw [if_neg c13] at hf
        refine lv_iload_n hx hb dX12_thing_94 rfl (lv_at hl 1 rfl) ?_
        refine lv_bipush (v := 112) hx hb dX12_thing_95 (by decide) ?_
        refine lv_icmp_eq (tgt := 146) hx hb dX12_thing_97 (by decide) (fun c17 => ?_) (fun c17 => ?_)
        · rw [if_pos c17] at hf
          exact J146 v2 i_at i_wrong hf _ _ _ (lv_sub hl [0, 1] rfl) hP hD hS
        · rw [if_neg c17] at hf
          refine lv_iload_n hx hb dX12_thing_100 rfl (lv_at hl 1 rfl) ?_
          refine lv_bipush (v := 116) hx hb dX12_thing_101 (by decide) ?_
          refine lv_icmp_eq (tgt := 146) hx hb dX12_thing_103 (by decide) (fun c18 => ?_) (fun c18 => ?_)
          · rw [if_pos c18] at hf
            exact J146 v2 i_at i_wrong hf _ _ _ (lv_sub hl [0, 1] rfl) hP hD hS
          · rw [if_neg c18] at hf
            refine lv_iload_n hx hb dX12_thing_106 rfl (lv_at hl 1 rfl) ?_
            refine lv_bipush (v := 111) hx hb dX12_thing_107 (by decide) ?_
            refine lv_icmp_eq (tgt := 146) hx hb dX12_thing_109 (by decide) (fun c19 => ?_) (fun c19 => ?_)
            · rw [if_pos c19] at hf
              exact J146 v2 i_at i_wrong hf _ _ _ (lv_sub hl [0, 1] rfl) hP hD hS
            · rw [if_neg c19] at hf
              refine lv_iload_n hx hb dX12_thing_112 rfl (lv_at hl 1 rfl) ?_
              refine lv_bipush (v := 110) hx hb dX12_thing_113 (by decide) ?_
              refine lv_icmp_eq (tgt := 146) hx hb dX12_thing_115 (by decide) (fun c20 => ?_) (fun c20 => ?_)
              · rw [if_pos c20] at hf
                exact J146 v2 i_at i_wrong hf _ _ _ (lv_sub hl [0, 1] rfl) hP hD hS
              · rw [if_neg c20] at hf
                refine lv_iload_n hx hb dX12_thing_118 rfl (lv_at hl 1 rfl) ?_
                refine lv_bipush (v := 120) hx hb dX12_thing_119 (by decide) ?_
                refine lv_icmp_eq (tgt := 146) hx hb dX12_thing_121 (by decide) (fun c21 => ?_) (fun c21 => ?_)
                · rw [if_pos c21] at hf
                  exact J146 v2 i_at i_wrong hf _ _ _ (lv_sub hl [0, 1] rfl) hP hD hS
                · rw [if_neg c21] at hf
                  refine lv_iload_n hx hb dX12_thing_124 rfl (lv_at hl 1 rfl) ?_
                  refine lv_bipush (v := 104) hx hb dX12_thing_125 (by decide) ?_
                  refine lv_icmp_eq (tgt := 146) hx hb dX12_thing_127 (by decide) (fun c22 => ?_) (fun c22 => ?_)
                  · rw [if_pos c22] at hf
                    exact J146 v2 i_at i_wrong hf _ _ _ (lv_sub hl [0, 1] rfl) hP hD hS
                  · rw [if_neg c22] at hf
                    refine lv_iload_n hx hb dX12_thing_130 rfl (lv_at hl 1 rfl) ?_
                    refine lv_bipush (v := 98) hx hb dX12_thing_131 (by decide) ?_
                    refine lv_icmp_eq (tgt := 146) hx hb dX12_thing_133 (by decide) (fun c23 => ?_) (fun c23 => ?_)
                    · rw [if_pos c23] at hf
                      exact J146 v2 i_at i_wrong hf _ _ _ (lv_sub hl [0, 1] rfl) hP hD hS
                    · rw [if_neg c23] at hf
                      refine lv_aload_n hx hb dX12_thing_136 rfl (lv_at hl 0 rfl) ?_
                      refine lv_aload_n hx hb dX12_thing_137 rfl (lv_at hl 0 rfl) ?_
                      refine gf_RX12_117 C hP 0 rfl rfl dX12_thing_138 ?_
                      obtain ⟨o24, hg25, hf⟩ := bd_some hf
                      refine k_VV (As := [.int i_at]) C K_RX12_135 (by omega) (Nat.le_of_ble_eq_true rfl) (kX12_fault l E q0 q0_now q0_hold q0_below q0_hay q0_weather q0_text q0_row q0_comes q0_rule q0_owedBy q0_undos q0_aside q0_acts q0_ring q0_bestRing q0_nets q0_worked q0_then q0_plan q0_bestPlan q0_tried q0_tracks q0_kept q0_isKept q0_keptCame i_houses i_weatherMany i_typed i_rowMany i_thrown ((.ref q0_read)) i_length i_top i_at i_wrong i_ruleSize i_isAsked i_askedInches i_askedPath i_askedDay i_askedRoof i_askedBelow i_askedLoose i_slidesMany i_owedNow i_slidInto i_undoMany i_bestLength i_setOff i_letLie i_trackMany i_came i_at o24 hg25) [0] rfl rfl rfl (ci := 12) rfl rfl (q0 := 0) rfl hP hD hS hA hl.1 (Nat.le_of_ble_eq_true rfl) rfl dX12_thing_141 (fun H locs hP hD hS => ?_)
                      have hP : va_P E.1 classes (WX12_held E q0 q0_now q0_hold q0_below q0_hay q0_weather q0_text q0_row q0_read q0_comes q0_rule q0_owedBy q0_undos q0_aside q0_acts q0_ring q0_bestRing q0_nets q0_worked q0_then q0_plan q0_bestPlan q0_tried q0_tracks q0_kept q0_isKept q0_keptCame n_read i_houses i_weatherMany i_typed i_rowMany i_thrown i_length i_top i_at o24 i_ruleSize i_isAsked i_askedInches i_askedPath i_askedDay i_askedRoof i_askedBelow i_askedLoose i_slidesMany i_owedNow i_slidInto i_undoMany i_bestLength i_setOff i_letLie i_trackMany i_came a_read a_hold a_weather) H := hP
                      have hD : va_D A (WX12_held E q0 q0_now q0_hold q0_below q0_hay q0_weather q0_text q0_row q0_read q0_comes q0_rule q0_owedBy q0_undos q0_aside q0_acts q0_ring q0_bestRing q0_nets q0_worked q0_then q0_plan q0_bestPlan q0_tried q0_tracks q0_kept q0_isKept q0_keptCame n_read i_houses i_weatherMany i_typed i_rowMany i_thrown i_length i_top i_at o24 i_ruleSize i_isAsked i_askedInches i_askedPath i_askedDay i_askedRoof i_askedBelow i_askedLoose i_slidesMany i_owedNow i_slidInto i_undoMany i_bestLength i_setOff i_letLie i_trackMany i_came a_read a_hold a_weather) := hD
                      refine lv_iconst (v := 0) hx hb dX12_thing_144 (by decide) ?_
                      have hj0 := Option.some.inj hf
                      obtain ⟨ha0, hj1⟩ := Prod.mk.inj hj0
                      obtain ⟨ha1, hj2⟩ := Prod.mk.inj hj1
                      subst ha0
                      subst ha1
                      subst hj2
                      exact hret _ _ _ _ dX12_thing_145 rfl hP hD hS
    · rw [if_neg c12] at hf
      refine lv_aload_n hx hb dX12_thing_78 rfl (lv_at hl 0 rfl) ?_
      refine lv_iconst (v := 3) hx hb dX12_thing_79 (by decide) ?_
      refine lv_iconst (v := 0) hx hb dX12_thing_80 (by decide) ?_
      refine lv_sipush (v := 999) hx hb dX12_thing_81 (by decide) ?_
      obtain ⟨o26, hg27, hf⟩ := bd_some hf
      refine k_VI (As := [.int 3, .int 0, .int 999]) C K_RX12_143 (by omega) (Nat.le_of_ble_eq_true rfl) (kX12_number l E q0 q0_now q0_hold q0_below q0_hay q0_weather q0_text q0_row q0_read q0_comes q0_rule q0_owedBy q0_undos q0_aside q0_acts q0_ring q0_bestRing q0_nets q0_worked q0_then q0_plan q0_bestPlan q0_tried q0_tracks q0_kept q0_isKept q0_keptCame n_read i_houses i_weatherMany i_typed i_rowMany i_thrown i_length i_top i_at i_wrong i_ruleSize i_isAsked i_askedInches i_askedPath i_askedDay i_askedRoof i_askedBelow i_askedLoose i_slidesMany i_owedNow i_slidInto i_undoMany i_bestLength i_setOff i_letLie i_trackMany i_came a_read 3 0 999 o26.1 o26.2.1 o26.2.2 hg27) [0, 1] rfl rfl rfl (ci := 12) rfl rfl (q0 := 0) rfl hP hD hS hA hl.1 (Nat.le_of_ble_eq_true rfl) rfl dX12_thing_84 (fun H locs hP hD hS => ?_)
      have hP : va_P E.1 classes (WX12_held E q0 q0_now q0_hold q0_below q0_hay q0_weather q0_text q0_row q0_read q0_comes q0_rule q0_owedBy q0_undos q0_aside q0_acts q0_ring q0_bestRing q0_nets q0_worked q0_then q0_plan q0_bestPlan q0_tried q0_tracks q0_kept q0_isKept q0_keptCame n_read i_houses i_weatherMany i_typed i_rowMany i_thrown i_length i_top o26.2.1 o26.2.2 i_ruleSize i_isAsked i_askedInches i_askedPath i_askedDay i_askedRoof i_askedBelow i_askedLoose i_slidesMany i_owedNow i_slidInto i_undoMany i_bestLength i_setOff i_letLie i_trackMany i_came a_read a_hold a_weather) H := hP
      have hD : va_D A (WX12_held E q0 q0_now q0_hold q0_below q0_hay q0_weather q0_text q0_row q0_read q0_comes q0_rule q0_owedBy q0_undos q0_aside q0_acts q0_ring q0_bestRing q0_nets q0_worked q0_then q0_plan q0_bestPlan q0_tried q0_tracks q0_kept q0_isKept q0_keptCame n_read i_houses i_weatherMany i_typed i_rowMany i_thrown i_length i_top o26.2.1 o26.2.2 i_ruleSize i_isAsked i_askedInches i_askedPath i_askedDay i_askedRoof i_askedBelow i_askedLoose i_slidesMany i_owedNow i_slidInto i_undoMany i_bestLength i_setOff i_letLie i_trackMany i_came a_read a_hold a_weather) := hD
      have hj0 := Option.some.inj hf
      obtain ⟨ha0, hj1⟩ := Prod.mk.inj hj0
      obtain ⟨ha1, hj2⟩ := Prod.mk.inj hj1
      subst ha0
      subst ha1
      subst hj2
      exact hret _ _ _ _ dX12_thing_87 rfl hP hD hS
  intro H locs ls hl hP hD hS
  have hl : lv_has ls 4 [(0, .ref q0), (1, .int p1)] := hl
  unfold fX12_thing_B at hf
  refine lv_aload_n hx hb dX12_thing_0 rfl (lv_at hl 0 rfl) ?_
  refine lv_bipush (v := 45) hx hb dX12_thing_1 (by decide) ?_
  obtain ⟨o1, hg2, hf⟩ := bd_some hf
  refine k_VI (As := [.int 45]) C K_RX12_131 (by omega) (Nat.le_of_ble_eq_true rfl) (kX12_passes l E q0 q0_now q0_hold q0_below q0_hay q0_weather q0_text q0_row q0_read q0_comes q0_rule q0_owedBy q0_undos q0_aside q0_acts q0_ring q0_bestRing q0_nets q0_worked q0_then q0_plan q0_bestPlan q0_tried q0_tracks q0_kept q0_isKept q0_keptCame n_read i_houses i_weatherMany i_typed i_rowMany i_thrown i_length i_top i_at i_wrong i_ruleSize i_isAsked i_askedInches i_askedPath i_askedDay i_askedRoof i_askedBelow i_askedLoose i_slidesMany i_owedNow i_slidInto i_undoMany i_bestLength i_setOff i_letLie i_trackMany i_came a_read 45 o1.1 o1.2 hg2) [0, 1] rfl rfl rfl (ci := 12) rfl rfl (q0 := 0) rfl hP hD hS hA hl.1 (Nat.le_of_ble_eq_true rfl) rfl dX12_thing_3 (fun H locs hP hD hS => ?_)
  have hP : va_P E.1 classes (WX12_held E q0 q0_now q0_hold q0_below q0_hay q0_weather q0_text q0_row q0_read q0_comes q0_rule q0_owedBy q0_undos q0_aside q0_acts q0_ring q0_bestRing q0_nets q0_worked q0_then q0_plan q0_bestPlan q0_tried q0_tracks q0_kept q0_isKept q0_keptCame n_read i_houses i_weatherMany i_typed i_rowMany i_thrown i_length i_top o1.2 i_wrong i_ruleSize i_isAsked i_askedInches i_askedPath i_askedDay i_askedRoof i_askedBelow i_askedLoose i_slidesMany i_owedNow i_slidInto i_undoMany i_bestLength i_setOff i_letLie i_trackMany i_came a_read a_hold a_weather) H := hP
  have hD : va_D A (WX12_held E q0 q0_now q0_hold q0_below q0_hay q0_weather q0_text q0_row q0_read q0_comes q0_rule q0_owedBy q0_undos q0_aside q0_acts q0_ring q0_bestRing q0_nets q0_worked q0_then q0_plan q0_bestPlan q0_tried q0_tracks q0_kept q0_isKept q0_keptCame n_read i_houses i_weatherMany i_typed i_rowMany i_thrown i_length i_top o1.2 i_wrong i_ruleSize i_isAsked i_askedInches i_askedPath i_askedDay i_askedRoof i_askedBelow i_askedLoose i_slidesMany i_owedNow i_slidInto i_undoMany i_bestLength i_setOff i_letLie i_trackMany i_came a_read a_hold a_weather) := hD
  refine lv_if_eq (tgt := 16) hx hb dX12_thing_6 (by decide) (fun c3 => ?_) (fun c3 => ?_)
  · rw [if_pos c3] at hf
    refine lv_aload_n hx hb dX12_thing_16 rfl (lv_at hl 0 rfl) ?_
    obtain ⟨o4, hg5, hf⟩ := bd_some hf
    refine k_VI (As := []) C K_RX12_123 (by omega) (Nat.le_of_ble_eq_true rfl) (kX12_fine l E q0 q0_now q0_hold q0_below q0_hay q0_weather q0_text q0_row q0_comes q0_rule q0_owedBy q0_undos q0_aside q0_acts q0_ring q0_bestRing q0_nets q0_worked q0_then q0_plan q0_bestPlan q0_tried q0_tracks q0_kept q0_isKept q0_keptCame i_houses i_weatherMany i_typed i_rowMany i_thrown ((.ref q0_read)) i_length i_top o1.2 i_wrong i_ruleSize i_isAsked i_askedInches i_askedPath i_askedDay i_askedRoof i_askedBelow i_askedLoose i_slidesMany i_owedNow i_slidInto i_undoMany i_bestLength i_setOff i_letLie i_trackMany i_came o4 hg5) [0] rfl rfl rfl (ci := 12) rfl rfl (q0 := 0) rfl hP hD hS hA hl.1 (Nat.le_of_ble_eq_true rfl) rfl dX12_thing_17 (fun H locs hP hD hS => ?_)
    have hP : va_P E.1 classes (WX12_held E q0 q0_now q0_hold q0_below q0_hay q0_weather q0_text q0_row q0_read q0_comes q0_rule q0_owedBy q0_undos q0_aside q0_acts q0_ring q0_bestRing q0_nets q0_worked q0_then q0_plan q0_bestPlan q0_tried q0_tracks q0_kept q0_isKept q0_keptCame n_read i_houses i_weatherMany i_typed i_rowMany i_thrown i_length i_top o1.2 i_wrong i_ruleSize i_isAsked i_askedInches i_askedPath i_askedDay i_askedRoof i_askedBelow i_askedLoose i_slidesMany i_owedNow i_slidInto i_undoMany i_bestLength i_setOff i_letLie i_trackMany i_came a_read a_hold a_weather) H := hP
    have hD : va_D A (WX12_held E q0 q0_now q0_hold q0_below q0_hay q0_weather q0_text q0_row q0_read q0_comes q0_rule q0_owedBy q0_undos q0_aside q0_acts q0_ring q0_bestRing q0_nets q0_worked q0_then q0_plan q0_bestPlan q0_tried q0_tracks q0_kept q0_isKept q0_keptCame n_read i_houses i_weatherMany i_typed i_rowMany i_thrown i_length i_top o1.2 i_wrong i_ruleSize i_isAsked i_askedInches i_askedPath i_askedDay i_askedRoof i_askedBelow i_askedLoose i_slidesMany i_owedNow i_slidInto i_undoMany i_bestLength i_setOff i_letLie i_trackMany i_came a_read a_hold a_weather) := hD
    refine lv_if_ne (tgt := 25) hx hb dX12_thing_20 (by decide) (fun c6 => ?_) (fun c6 => ?_)
    · rw [if_neg c6] at hf
      refine lv_aload_n hx hb dX12_thing_25 rfl (lv_at hl 0 rfl) ?_
      obtain ⟨o7, hg8, hf⟩ := bd_some hf
      refine k_VI (As := []) C K_RX12_127 (by omega) (Nat.le_of_ble_eq_true rfl) (kX12_here l E q0 q0_now q0_hold q0_below q0_hay q0_weather q0_text q0_row q0_read q0_comes q0_rule q0_owedBy q0_undos q0_aside q0_acts q0_ring q0_bestRing q0_nets q0_worked q0_then q0_plan q0_bestPlan q0_tried q0_tracks q0_kept q0_isKept q0_keptCame n_read i_houses i_weatherMany i_typed i_rowMany i_thrown i_length i_top o1.2 i_wrong i_ruleSize i_isAsked i_askedInches i_askedPath i_askedDay i_askedRoof i_askedBelow i_askedLoose i_slidesMany i_owedNow i_slidInto i_undoMany i_bestLength i_setOff i_letLie i_trackMany i_came a_read o7 hg8) [0, 1] rfl rfl rfl (ci := 12) rfl rfl (q0 := 0) rfl hP hD hS hA hl.1 (Nat.le_of_ble_eq_true rfl) rfl dX12_thing_26 (fun H locs hP hD hS => ?_)
      have hP : va_P E.1 classes (WX12_held E q0 q0_now q0_hold q0_below q0_hay q0_weather q0_text q0_row q0_read q0_comes q0_rule q0_owedBy q0_undos q0_aside q0_acts q0_ring q0_bestRing q0_nets q0_worked q0_then q0_plan q0_bestPlan q0_tried q0_tracks q0_kept q0_isKept q0_keptCame n_read i_houses i_weatherMany i_typed i_rowMany i_thrown i_length i_top o1.2 i_wrong i_ruleSize i_isAsked i_askedInches i_askedPath i_askedDay i_askedRoof i_askedBelow i_askedLoose i_slidesMany i_owedNow i_slidInto i_undoMany i_bestLength i_setOff i_letLie i_trackMany i_came a_read a_hold a_weather) H := hP
      have hD : va_D A (WX12_held E q0 q0_now q0_hold q0_below q0_hay q0_weather q0_text q0_row q0_read q0_comes q0_rule q0_owedBy q0_undos q0_aside q0_acts q0_ring q0_bestRing q0_nets q0_worked q0_then q0_plan q0_bestPlan q0_tried q0_tracks q0_kept q0_isKept q0_keptCame n_read i_houses i_weatherMany i_typed i_rowMany i_thrown i_length i_top o1.2 i_wrong i_ruleSize i_isAsked i_askedInches i_askedPath i_askedDay i_askedRoof i_askedBelow i_askedLoose i_slidesMany i_owedNow i_slidInto i_undoMany i_bestLength i_setOff i_letLie i_trackMany i_came a_read a_hold a_weather) := hD
      refine lv_istore_n (lv' := [(2, .int o7), (0, .ref q0), (1, .int p1)]) hx hb dX12_thing_29 rfl hl (by decide) rfl (fun ls hl => ?_)
      refine lv_iload_n hx hb dX12_thing_30 rfl (lv_at hl 0 rfl) ?_
      refine lv_bipush (v := 40) hx hb dX12_thing_31 (by decide) ?_
      refine lv_icmp_ne (tgt := 67) hx hb dX12_thing_33 (by decide) (fun c9 => ?_) (fun c9 => ?_)
      · rw [if_neg c9] at hf
        exact J67 o7 o1.2 i_wrong hf _ _ _ (lv_sub hl [1, 0] rfl) hP hD hS
      · rw [if_pos c9] at hf
        refine lv_iload_n hx hb dX12_thing_36 rfl (lv_at hl 2 rfl) ?_
        refine lv_iconst (v := 4) hx hb dX12_thing_37 (by decide) ?_
        refine lv_icmp_ge (tgt := 67) hx hb dX12_thing_38 (by decide) (fun c28 => ?_) (fun c28 => ?_)
        · rw [if_pos c28] at hf
          exact J67 o7 o1.2 i_wrong hf _ _ _ (lv_sub hl [1, 0] rfl) hP hD hS
        · rw [if_neg c28] at hf
          refine lv_aload_n hx hb dX12_thing_41 rfl (lv_at hl 1 rfl) ?_
          refine lv_dup hx hb dX12_thing_42 rfl ?_
          refine gf_RX12_117 C hP 0 rfl rfl dX12_thing_43 ?_
          refine lv_iconst (v := 1) hx hb dX12_thing_46 (by decide) ?_
          refine lv_iadd hx hb dX12_thing_47 ?_
          refine pf_RX12_117 C hP hD hS 0 rfl (Nat.le_of_ble_eq_true rfl) dX12_thing_48 (fun H locs hP hD hS => ?_)
          have hP : va_P E.1 classes (WX12_held E q0 q0_now q0_hold q0_below q0_hay q0_weather q0_text q0_row q0_read q0_comes q0_rule q0_owedBy q0_undos q0_aside q0_acts q0_ring q0_bestRing q0_nets q0_worked q0_then q0_plan q0_bestPlan q0_tried q0_tracks q0_kept q0_isKept q0_keptCame n_read i_houses i_weatherMany i_typed i_rowMany i_thrown i_length i_top ((o1.2 + 1)) i_wrong i_ruleSize i_isAsked i_askedInches i_askedPath i_askedDay i_askedRoof i_askedBelow i_askedLoose i_slidesMany i_owedNow i_slidInto i_undoMany i_bestLength i_setOff i_letLie i_trackMany i_came a_read a_hold a_weather) H := hP
          have hD : va_D A (WX12_held E q0 q0_now q0_hold q0_below q0_hay q0_weather q0_text q0_row q0_read q0_comes q0_rule q0_owedBy q0_undos q0_aside q0_acts q0_ring q0_bestRing q0_nets q0_worked q0_then q0_plan q0_bestPlan q0_tried q0_tracks q0_kept q0_isKept q0_keptCame n_read i_houses i_weatherMany i_typed i_rowMany i_thrown i_length i_top ((o1.2 + 1)) i_wrong i_ruleSize i_isAsked i_askedInches i_askedPath i_askedDay i_askedRoof i_askedBelow i_askedLoose i_slidesMany i_owedNow i_slidInto i_undoMany i_bestLength i_setOff i_letLie i_trackMany i_came a_read a_hold a_weather) := hD
          refine lv_aload_n hx hb dX12_thing_51 rfl (lv_at hl 1 rfl) ?_
          refine lv_iload_n hx hb dX12_thing_52 rfl (lv_at hl 2 rfl) ?_
          refine lv_iconst (v := 1) hx hb dX12_thing_53 (by decide) ?_
          refine lv_iadd hx hb dX12_thing_54 ?_
          obtain ⟨o29, hg30, hf⟩ := bd_some hf
          refine k_VI (As := [.int ((p1 + 1))]) C K_RX12_180 (Nat.lt_succ_self d) (Nat.le_of_ble_eq_true rfl) (hG0 q0 q0_now q0_hold q0_below q0_hay q0_weather q0_text q0_row q0_read q0_comes q0_rule q0_owedBy q0_undos q0_aside q0_acts q0_ring q0_bestRing q0_nets q0_worked q0_then q0_plan q0_bestPlan q0_tried q0_tracks q0_kept q0_isKept q0_keptCame n_read i_houses i_weatherMany i_typed i_rowMany i_thrown i_length i_top ((o1.2 + 1)) i_wrong i_ruleSize i_isAsked i_askedInches i_askedPath i_askedDay i_askedRoof i_askedBelow i_askedLoose i_slidesMany i_owedNow i_slidInto i_undoMany i_bestLength i_setOff i_letLie i_trackMany i_came a_read a_hold a_weather ((p1 + 1)) o29.1 o29.2.1 o29.2.2 hg30) [0, 1, 2, 3] rfl rfl rfl (ci := 12) rfl rfl (q0 := 0) rfl hP hD hS hA hl.1 (Nat.le_of_ble_eq_true rfl) rfl dX12_thing_55 (fun H locs hP hD hS => ?_)
          have hP : va_P E.1 classes (WX12_held E q0 q0_now q0_hold q0_below q0_hay q0_weather q0_text q0_row q0_read q0_comes q0_rule q0_owedBy q0_undos q0_aside q0_acts q0_ring q0_bestRing q0_nets q0_worked q0_then q0_plan q0_bestPlan q0_tried q0_tracks q0_kept q0_isKept q0_keptCame n_read i_houses i_weatherMany i_typed i_rowMany i_thrown i_length i_top o29.2.1 o29.2.2 i_ruleSize i_isAsked i_askedInches i_askedPath i_askedDay i_askedRoof i_askedBelow i_askedLoose i_slidesMany i_owedNow i_slidInto i_undoMany i_bestLength i_setOff i_letLie i_trackMany i_came a_read a_hold a_weather) H := hP
          have hD : va_D A (WX12_held E q0 q0_now q0_hold q0_below q0_hay q0_weather q0_text q0_row q0_read q0_comes q0_rule q0_owedBy q0_undos q0_aside q0_acts q0_ring q0_bestRing q0_nets q0_worked q0_then q0_plan q0_bestPlan q0_tried q0_tracks q0_kept q0_isKept q0_keptCame n_read i_houses i_weatherMany i_typed i_rowMany i_thrown i_length i_top o29.2.1 o29.2.2 i_ruleSize i_isAsked i_askedInches i_askedPath i_askedDay i_askedRoof i_askedBelow i_askedLoose i_slidesMany i_owedNow i_slidInto i_undoMany i_bestLength i_setOff i_letLie i_trackMany i_came a_read a_hold a_weather) := hD
          refine lv_istore_n (lv' := [(3, .int o29.1), (2, .int o7), (0, .ref q0), (1, .int p1)]) hx hb dX12_thing_58 rfl hl (by decide) rfl (fun ls hl => ?_)
          refine lv_aload_n hx hb dX12_thing_59 rfl (lv_at hl 2 rfl) ?_
          refine lv_bipush (v := 41) hx hb dX12_thing_60 (by decide) ?_
          obtain ⟨o31, hg32, hf⟩ := bd_some hf
          refine k_VV (As := [.int 41]) C K_RX12_147 (by omega) (Nat.le_of_ble_eq_true rfl) (kX12_need l E q0 q0_now q0_hold q0_below q0_hay q0_weather q0_text q0_row q0_read q0_comes q0_rule q0_owedBy q0_undos q0_aside q0_acts q0_ring q0_bestRing q0_nets q0_worked q0_then q0_plan q0_bestPlan q0_tried q0_tracks q0_kept q0_isKept q0_keptCame n_read i_houses i_weatherMany i_typed i_rowMany i_thrown i_length i_top o29.2.1 o29.2.2 i_ruleSize i_isAsked i_askedInches i_askedPath i_askedDay i_askedRoof i_askedBelow i_askedLoose i_slidesMany i_owedNow i_slidInto i_undoMany i_bestLength i_setOff i_letLie i_trackMany i_came a_read 41 o31.1 o31.2 hg32) [0, 1] rfl rfl rfl (ci := 12) rfl rfl (q0 := 0) rfl hP hD hS hA hl.1 (Nat.le_of_ble_eq_true rfl) rfl dX12_thing_62 (fun H locs hP hD hS => ?_)
          have hP : va_P E.1 classes (WX12_held E q0 q0_now q0_hold q0_below q0_hay q0_weather q0_text q0_row q0_read q0_comes q0_rule q0_owedBy q0_undos q0_aside q0_acts q0_ring q0_bestRing q0_nets q0_worked q0_then q0_plan q0_bestPlan q0_tried q0_tracks q0_kept q0_isKept q0_keptCame n_read i_houses i_weatherMany i_typed i_rowMany i_thrown i_length i_top o31.1 o31.2 i_ruleSize i_isAsked i_askedInches i_askedPath i_askedDay i_askedRoof i_askedBelow i_askedLoose i_slidesMany i_owedNow i_slidInto i_undoMany i_bestLength i_setOff i_letLie i_trackMany i_came a_read a_hold a_weather) H := hP
          have hD : va_D A (WX12_held E q0 q0_now q0_hold q0_below q0_hay q0_weather q0_text q0_row q0_read q0_comes q0_rule q0_owedBy q0_undos q0_aside q0_acts q0_ring q0_bestRing q0_nets q0_worked q0_then q0_plan q0_bestPlan q0_tried q0_tracks q0_kept q0_isKept q0_keptCame n_read i_houses i_weatherMany i_typed i_rowMany i_thrown i_length i_top o31.1 o31.2 i_ruleSize i_isAsked i_askedInches i_askedPath i_askedDay i_askedRoof i_askedBelow i_askedLoose i_slidesMany i_owedNow i_slidInto i_undoMany i_bestLength i_setOff i_letLie i_trackMany i_came a_read a_hold a_weather) := hD
          refine lv_iload_n hx hb dX12_thing_65 rfl (lv_at hl 0 rfl) ?_
          have hj0 := Option.some.inj hf
          obtain ⟨ha0, hj1⟩ := Prod.mk.inj hj0
          obtain ⟨ha1, hj2⟩ := Prod.mk.inj hj1
          subst ha0
          subst ha1
          subst hj2
          exact hret _ _ _ _ dX12_thing_66 rfl hP hD hS
    · rw [if_pos c6] at hf
      refine lv_iconst (v := 0) hx hb dX12_thing_23 (by decide) ?_
      have hj0 := Option.some.inj hf
      obtain ⟨ha0, hj1⟩ := Prod.mk.inj hj0
      obtain ⟨ha1, hj2⟩ := Prod.mk.inj hj1
      subst ha0
      subst ha1
      subst hj2
      exact hret _ _ _ _ dX12_thing_24 rfl hP hD hS
  · rw [if_neg c3] at hf
    refine lv_aload_n hx hb dX12_thing_9 rfl (lv_at hl 0 rfl) ?_
    refine lv_iload_n hx hb dX12_thing_10 rfl (lv_at hl 1 rfl) ?_
    obtain ⟨o33, hg34, hf⟩ := bd_some hf
    refine k_VI (As := [.int p1]) C K_RX12_177 (Nat.lt_succ_self d) (Nat.le_of_ble_eq_true rfl) (hG3 q0 q0_now q0_hold q0_below q0_hay q0_weather q0_text q0_row q0_read q0_comes q0_rule q0_owedBy q0_undos q0_aside q0_acts q0_ring q0_bestRing q0_nets q0_worked q0_then q0_plan q0_bestPlan q0_tried q0_tracks q0_kept q0_isKept q0_keptCame n_read i_houses i_weatherMany i_typed i_rowMany i_thrown i_length i_top o1.2 i_wrong i_ruleSize i_isAsked i_askedInches i_askedPath i_askedDay i_askedRoof i_askedBelow i_askedLoose i_slidesMany i_owedNow i_slidInto i_undoMany i_bestLength i_setOff i_letLie i_trackMany i_came a_read a_hold a_weather p1 o33.1 o33.2.1 o33.2.2 hg34) [0, 1, 2, 3] rfl rfl rfl (ci := 12) rfl rfl (q0 := 0) rfl hP hD hS hA hl.1 (Nat.le_of_ble_eq_true rfl) rfl dX12_thing_11 (fun H locs hP hD hS => ?_)
    have hP : va_P E.1 classes (WX12_held E q0 q0_now q0_hold q0_below q0_hay q0_weather q0_text q0_row q0_read q0_comes q0_rule q0_owedBy q0_undos q0_aside q0_acts q0_ring q0_bestRing q0_nets q0_worked q0_then q0_plan q0_bestPlan q0_tried q0_tracks q0_kept q0_isKept q0_keptCame n_read i_houses i_weatherMany i_typed i_rowMany i_thrown i_length i_top o33.2.1 o33.2.2 i_ruleSize i_isAsked i_askedInches i_askedPath i_askedDay i_askedRoof i_askedBelow i_askedLoose i_slidesMany i_owedNow i_slidInto i_undoMany i_bestLength i_setOff i_letLie i_trackMany i_came a_read a_hold a_weather) H := hP
    have hD : va_D A (WX12_held E q0 q0_now q0_hold q0_below q0_hay q0_weather q0_text q0_row q0_read q0_comes q0_rule q0_owedBy q0_undos q0_aside q0_acts q0_ring q0_bestRing q0_nets q0_worked q0_then q0_plan q0_bestPlan q0_tried q0_tracks q0_kept q0_isKept q0_keptCame n_read i_houses i_weatherMany i_typed i_rowMany i_thrown i_length i_top o33.2.1 o33.2.2 i_ruleSize i_isAsked i_askedInches i_askedPath i_askedDay i_askedRoof i_askedBelow i_askedLoose i_slidesMany i_owedNow i_slidInto i_undoMany i_bestLength i_setOff i_letLie i_trackMany i_came a_read a_hold a_weather) := hD
    refine lv_ineg hx hb dX12_thing_14 ?_
    have hj0 := Option.some.inj hf
    obtain ⟨ha0, hj1⟩ := Prod.mk.inj hj0
    obtain ⟨ha1, hj2⟩ := Prod.mk.inj hj1
    subst ha0
    subst ha1
    subst hj2
    exact hret _ _ _ _ dX12_thing_15 rfl hP hD hS
set_option maxHeartbeats 4000000 in
set_option maxRecDepth 20000 in
theorem khsp : ∀ n : Nat, (∀ (l : Launch) (E : ENV), ∀ (q0 : Nat) (q0_now : Nat) (q0_hold : Nat) (q0_below : Nat) (q0_hay : Nat) (q0_weather : Nat) (q0_text : Nat) (q0_row : Nat) (q0_read : Nat) (q0_comes : Nat) (q0_rule : Nat) (q0_owedBy : Nat) (q0_undos : Nat) (q0_aside : Nat) (q0_acts : Nat) (q0_ring : Nat) (q0_bestRing : Nat) (q0_nets : Nat) (q0_worked : Nat) (q0_then : Nat) (q0_plan : Nat) (q0_bestPlan : Nat) (q0_tried : Nat) (q0_tracks : Nat) (q0_kept : Nat) (q0_isKept : Nat) (q0_keptCame : Nat) (n_read : Nat) (i_houses : Int32) (i_weatherMany : Int32) (i_typed : Int32) (i_rowMany : Int32) (i_thrown : Int32) (i_length : Int32) (i_top : Int32) (i_at : Int32) (i_wrong : Int32) (i_ruleSize : Int32) (i_isAsked : Int32) (i_askedInches : Int32) (i_askedPath : Int32) (i_askedDay : Int32) (i_askedRoof : Int32) (i_askedBelow : Int32) (i_askedLoose : Int32) (i_slidesMany : Int32) (i_owedNow : Int32) (i_slidInto : Int32) (i_undoMany : Int32) (i_bestLength : Int32) (i_setOff : Int32) (i_letLie : Int32) (i_trackMany : Int32) (i_came : Int32) (a_read : Nat → Int32) (a_hold : Nat → Int32) (a_weather : Nat → Int32) (p1 : Int32) (r9 : Int32) (i_at9 : Int32) (i_wrong9 : Int32), fhsp n 0 n_read i_weatherMany i_length i_top i_at i_wrong i_isAsked i_askedInches i_askedPath i_askedDay i_askedRoof i_askedBelow i_askedLoose a_read a_hold a_weather p1 = some (r9, i_at9, i_wrong9) → CI l E yX12_held cX12_held 3 (some .int) (3 + n) [.ref q0, .int p1] (WX12_held E q0 q0_now q0_hold q0_below q0_hay q0_weather q0_text q0_row q0_read q0_comes q0_rule q0_owedBy q0_undos q0_aside q0_acts q0_ring q0_bestRing q0_nets q0_worked q0_then q0_plan q0_bestPlan q0_tried q0_tracks q0_kept q0_isKept q0_keptCame n_read i_houses i_weatherMany i_typed i_rowMany i_thrown i_length i_top i_at i_wrong i_ruleSize i_isAsked i_askedInches i_askedPath i_askedDay i_askedRoof i_askedBelow i_askedLoose i_slidesMany i_owedNow i_slidInto i_undoMany i_bestLength i_setOff i_letLie i_trackMany i_came a_read a_hold a_weather) (WX12_held E q0 q0_now q0_hold q0_below q0_hay q0_weather q0_text q0_row q0_read q0_comes q0_rule q0_owedBy q0_undos q0_aside q0_acts q0_ring q0_bestRing q0_nets q0_worked q0_then q0_plan q0_bestPlan q0_tried q0_tracks q0_kept q0_isKept q0_keptCame n_read i_houses i_weatherMany i_typed i_rowMany i_thrown i_length i_top i_at9 i_wrong9 i_ruleSize i_isAsked i_askedInches i_askedPath i_askedDay i_askedRoof i_askedBelow i_askedLoose i_slidesMany i_owedNow i_slidInto i_undoMany i_bestLength i_setOff i_letLie i_trackMany i_came a_read a_hold a_weather) r9) ∧ (∀ (l : Launch) (E : ENV), ∀ (q0 : Nat) (q0_now : Nat) (q0_hold : Nat) (q0_below : Nat) (q0_hay : Nat) (q0_weather : Nat) (q0_text : Nat) (q0_row : Nat) (q0_read : Nat) (q0_comes : Nat) (q0_rule : Nat) (q0_owedBy : Nat) (q0_undos : Nat) (q0_aside : Nat) (q0_acts : Nat) (q0_ring : Nat) (q0_bestRing : Nat) (q0_nets : Nat) (q0_worked : Nat) (q0_then : Nat) (q0_plan : Nat) (q0_bestPlan : Nat) (q0_tried : Nat) (q0_tracks : Nat) (q0_kept : Nat) (q0_isKept : Nat) (q0_keptCame : Nat) (n_read : Nat) (i_houses : Int32) (i_weatherMany : Int32) (i_typed : Int32) (i_rowMany : Int32) (i_thrown : Int32) (i_length : Int32) (i_top : Int32) (i_at : Int32) (i_wrong : Int32) (i_ruleSize : Int32) (i_isAsked : Int32) (i_askedInches : Int32) (i_askedPath : Int32) (i_askedDay : Int32) (i_askedRoof : Int32) (i_askedBelow : Int32) (i_askedLoose : Int32) (i_slidesMany : Int32) (i_owedNow : Int32) (i_slidInto : Int32) (i_undoMany : Int32) (i_bestLength : Int32) (i_setOff : Int32) (i_letLie : Int32) (i_trackMany : Int32) (i_came : Int32) (a_read : Nat → Int32) (a_hold : Nat → Int32) (a_weather : Nat → Int32) (p1 : Int32) (r9 : Int32) (i_at9 : Int32) (i_wrong9 : Int32), fhsp n 1 n_read i_weatherMany i_length i_top i_at i_wrong i_isAsked i_askedInches i_askedPath i_askedDay i_askedRoof i_askedBelow i_askedLoose a_read a_hold a_weather p1 = some (r9, i_at9, i_wrong9) → CI l E yX12_sum cX12_sum 5 (some .int) (3 + n) [.ref q0, .int p1] (WX12_held E q0 q0_now q0_hold q0_below q0_hay q0_weather q0_text q0_row q0_read q0_comes q0_rule q0_owedBy q0_undos q0_aside q0_acts q0_ring q0_bestRing q0_nets q0_worked q0_then q0_plan q0_bestPlan q0_tried q0_tracks q0_kept q0_isKept q0_keptCame n_read i_houses i_weatherMany i_typed i_rowMany i_thrown i_length i_top i_at i_wrong i_ruleSize i_isAsked i_askedInches i_askedPath i_askedDay i_askedRoof i_askedBelow i_askedLoose i_slidesMany i_owedNow i_slidInto i_undoMany i_bestLength i_setOff i_letLie i_trackMany i_came a_read a_hold a_weather) (WX12_held E q0 q0_now q0_hold q0_below q0_hay q0_weather q0_text q0_row q0_read q0_comes q0_rule q0_owedBy q0_undos q0_aside q0_acts q0_ring q0_bestRing q0_nets q0_worked q0_then q0_plan q0_bestPlan q0_tried q0_tracks q0_kept q0_isKept q0_keptCame n_read i_houses i_weatherMany i_typed i_rowMany i_thrown i_length i_top i_at9 i_wrong9 i_ruleSize i_isAsked i_askedInches i_askedPath i_askedDay i_askedRoof i_askedBelow i_askedLoose i_slidesMany i_owedNow i_slidInto i_undoMany i_bestLength i_setOff i_letLie i_trackMany i_came a_read a_hold a_weather) r9) ∧ (∀ (l : Launch) (E : ENV), ∀ (q0 : Nat) (q0_now : Nat) (q0_hold : Nat) (q0_below : Nat) (q0_hay : Nat) (q0_weather : Nat) (q0_text : Nat) (q0_row : Nat) (q0_read : Nat) (q0_comes : Nat) (q0_rule : Nat) (q0_owedBy : Nat) (q0_undos : Nat) (q0_aside : Nat) (q0_acts : Nat) (q0_ring : Nat) (q0_bestRing : Nat) (q0_nets : Nat) (q0_worked : Nat) (q0_then : Nat) (q0_plan : Nat) (q0_bestPlan : Nat) (q0_tried : Nat) (q0_tracks : Nat) (q0_kept : Nat) (q0_isKept : Nat) (q0_keptCame : Nat) (n_read : Nat) (i_houses : Int32) (i_weatherMany : Int32) (i_typed : Int32) (i_rowMany : Int32) (i_thrown : Int32) (i_length : Int32) (i_top : Int32) (i_at : Int32) (i_wrong : Int32) (i_ruleSize : Int32) (i_isAsked : Int32) (i_askedInches : Int32) (i_askedPath : Int32) (i_askedDay : Int32) (i_askedRoof : Int32) (i_askedBelow : Int32) (i_askedLoose : Int32) (i_slidesMany : Int32) (i_owedNow : Int32) (i_slidInto : Int32) (i_undoMany : Int32) (i_bestLength : Int32) (i_setOff : Int32) (i_letLie : Int32) (i_trackMany : Int32) (i_came : Int32) (a_read : Nat → Int32) (a_hold : Nat → Int32) (a_weather : Nat → Int32) (p1 : Int32) (r9 : Int32) (i_at9 : Int32) (i_wrong9 : Int32), fhsp n 2 n_read i_weatherMany i_length i_top i_at i_wrong i_isAsked i_askedInches i_askedPath i_askedDay i_askedRoof i_askedBelow i_askedLoose a_read a_hold a_weather p1 = some (r9, i_at9, i_wrong9) → CI l E yX12_product cX12_product 5 (some .int) (3 + n) [.ref q0, .int p1] (WX12_held E q0 q0_now q0_hold q0_below q0_hay q0_weather q0_text q0_row q0_read q0_comes q0_rule q0_owedBy q0_undos q0_aside q0_acts q0_ring q0_bestRing q0_nets q0_worked q0_then q0_plan q0_bestPlan q0_tried q0_tracks q0_kept q0_isKept q0_keptCame n_read i_houses i_weatherMany i_typed i_rowMany i_thrown i_length i_top i_at i_wrong i_ruleSize i_isAsked i_askedInches i_askedPath i_askedDay i_askedRoof i_askedBelow i_askedLoose i_slidesMany i_owedNow i_slidInto i_undoMany i_bestLength i_setOff i_letLie i_trackMany i_came a_read a_hold a_weather) (WX12_held E q0 q0_now q0_hold q0_below q0_hay q0_weather q0_text q0_row q0_read q0_comes q0_rule q0_owedBy q0_undos q0_aside q0_acts q0_ring q0_bestRing q0_nets q0_worked q0_then q0_plan q0_bestPlan q0_tried q0_tracks q0_kept q0_isKept q0_keptCame n_read i_houses i_weatherMany i_typed i_rowMany i_thrown i_length i_top i_at9 i_wrong9 i_ruleSize i_isAsked i_askedInches i_askedPath i_askedDay i_askedRoof i_askedBelow i_askedLoose i_slidesMany i_owedNow i_slidInto i_undoMany i_bestLength i_setOff i_letLie i_trackMany i_came a_read a_hold a_weather) r9) ∧ (∀ (l : Launch) (E : ENV), ∀ (q0 : Nat) (q0_now : Nat) (q0_hold : Nat) (q0_below : Nat) (q0_hay : Nat) (q0_weather : Nat) (q0_text : Nat) (q0_row : Nat) (q0_read : Nat) (q0_comes : Nat) (q0_rule : Nat) (q0_owedBy : Nat) (q0_undos : Nat) (q0_aside : Nat) (q0_acts : Nat) (q0_ring : Nat) (q0_bestRing : Nat) (q0_nets : Nat) (q0_worked : Nat) (q0_then : Nat) (q0_plan : Nat) (q0_bestPlan : Nat) (q0_tried : Nat) (q0_tracks : Nat) (q0_kept : Nat) (q0_isKept : Nat) (q0_keptCame : Nat) (n_read : Nat) (i_houses : Int32) (i_weatherMany : Int32) (i_typed : Int32) (i_rowMany : Int32) (i_thrown : Int32) (i_length : Int32) (i_top : Int32) (i_at : Int32) (i_wrong : Int32) (i_ruleSize : Int32) (i_isAsked : Int32) (i_askedInches : Int32) (i_askedPath : Int32) (i_askedDay : Int32) (i_askedRoof : Int32) (i_askedBelow : Int32) (i_askedLoose : Int32) (i_slidesMany : Int32) (i_owedNow : Int32) (i_slidInto : Int32) (i_undoMany : Int32) (i_bestLength : Int32) (i_setOff : Int32) (i_letLie : Int32) (i_trackMany : Int32) (i_came : Int32) (a_read : Nat → Int32) (a_hold : Nat → Int32) (a_weather : Nat → Int32) (p1 : Int32) (r9 : Int32) (i_at9 : Int32) (i_wrong9 : Int32), fhsp n 3 n_read i_weatherMany i_length i_top i_at i_wrong i_isAsked i_askedInches i_askedPath i_askedDay i_askedRoof i_askedBelow i_askedLoose a_read a_hold a_weather p1 = some (r9, i_at9, i_wrong9) → CI l E yX12_thing cX12_thing 4 (some .int) (3 + n) [.ref q0, .int p1] (WX12_held E q0 q0_now q0_hold q0_below q0_hay q0_weather q0_text q0_row q0_read q0_comes q0_rule q0_owedBy q0_undos q0_aside q0_acts q0_ring q0_bestRing q0_nets q0_worked q0_then q0_plan q0_bestPlan q0_tried q0_tracks q0_kept q0_isKept q0_keptCame n_read i_houses i_weatherMany i_typed i_rowMany i_thrown i_length i_top i_at i_wrong i_ruleSize i_isAsked i_askedInches i_askedPath i_askedDay i_askedRoof i_askedBelow i_askedLoose i_slidesMany i_owedNow i_slidInto i_undoMany i_bestLength i_setOff i_letLie i_trackMany i_came a_read a_hold a_weather) (WX12_held E q0 q0_now q0_hold q0_below q0_hay q0_weather q0_text q0_row q0_read q0_comes q0_rule q0_owedBy q0_undos q0_aside q0_acts q0_ring q0_bestRing q0_nets q0_worked q0_then q0_plan q0_bestPlan q0_tried q0_tracks q0_kept q0_isKept q0_keptCame n_read i_houses i_weatherMany i_typed i_rowMany i_thrown i_length i_top i_at9 i_wrong9 i_ruleSize i_isAsked i_askedInches i_askedPath i_askedDay i_askedRoof i_askedBelow i_askedLoose i_slidesMany i_owedNow i_slidInto i_undoMany i_bestLength i_setOff i_letLie i_trackMany i_came a_read a_hold a_weather) r9) := by
  intro n
  induction n with
  | zero =>
    refine ⟨?_, ?_, ?_, ?_⟩
    · intro l E q0 q0_now q0_hold q0_below q0_hay q0_weather q0_text q0_row q0_read q0_comes q0_rule q0_owedBy q0_undos q0_aside q0_acts q0_ring q0_bestRing q0_nets q0_worked q0_then q0_plan q0_bestPlan q0_tried q0_tracks q0_kept q0_isKept q0_keptCame n_read i_houses i_weatherMany i_typed i_rowMany i_thrown i_length i_top i_at i_wrong i_ruleSize i_isAsked i_askedInches i_askedPath i_askedDay i_askedRoof i_askedBelow i_askedLoose i_slidesMany i_owedNow i_slidInto i_undoMany i_bestLength i_setOff i_letLie i_trackMany i_came a_read a_hold a_weather p1 r9 i_at9 i_wrong9 hf
      have hf : none = some (r9, i_at9, i_wrong9) := hf
      cases hf
    · intro l E q0 q0_now q0_hold q0_below q0_hay q0_weather q0_text q0_row q0_read q0_comes q0_rule q0_owedBy q0_undos q0_aside q0_acts q0_ring q0_bestRing q0_nets q0_worked q0_then q0_plan q0_bestPlan q0_tried q0_tracks q0_kept q0_isKept q0_keptCame n_read i_houses i_weatherMany i_typed i_rowMany i_thrown i_length i_top i_at i_wrong i_ruleSize i_isAsked i_askedInches i_askedPath i_askedDay i_askedRoof i_askedBelow i_askedLoose i_slidesMany i_owedNow i_slidInto i_undoMany i_bestLength i_setOff i_letLie i_trackMany i_came a_read a_hold a_weather p1 r9 i_at9 i_wrong9 hf
      have hf : none = some (r9, i_at9, i_wrong9) := hf
      cases hf
    · intro l E q0 q0_now q0_hold q0_below q0_hay q0_weather q0_text q0_row q0_read q0_comes q0_rule q0_owedBy q0_undos q0_aside q0_acts q0_ring q0_bestRing q0_nets q0_worked q0_then q0_plan q0_bestPlan q0_tried q0_tracks q0_kept q0_isKept q0_keptCame n_read i_houses i_weatherMany i_typed i_rowMany i_thrown i_length i_top i_at i_wrong i_ruleSize i_isAsked i_askedInches i_askedPath i_askedDay i_askedRoof i_askedBelow i_askedLoose i_slidesMany i_owedNow i_slidInto i_undoMany i_bestLength i_setOff i_letLie i_trackMany i_came a_read a_hold a_weather p1 r9 i_at9 i_wrong9 hf
      have hf : none = some (r9, i_at9, i_wrong9) := hf
      cases hf
    · intro l E q0 q0_now q0_hold q0_below q0_hay q0_weather q0_text q0_row q0_read q0_comes q0_rule q0_owedBy q0_undos q0_aside q0_acts q0_ring q0_bestRing q0_nets q0_worked q0_then q0_plan q0_bestPlan q0_tried q0_tracks q0_kept q0_isKept q0_keptCame n_read i_houses i_weatherMany i_typed i_rowMany i_thrown i_length i_top i_at i_wrong i_ruleSize i_isAsked i_askedInches i_askedPath i_askedDay i_askedRoof i_askedBelow i_askedLoose i_slidesMany i_owedNow i_slidInto i_undoMany i_bestLength i_setOff i_letLie i_trackMany i_came a_read a_hold a_weather p1 r9 i_at9 i_wrong9 hf
      have hf : none = some (r9, i_at9, i_wrong9) := hf
      cases hf
  | succ n ih =>
    refine ⟨?_, ?_, ?_, ?_⟩
    · intro l E q0 q0_now q0_hold q0_below q0_hay q0_weather q0_text q0_row q0_read q0_comes q0_rule q0_owedBy q0_undos q0_aside q0_acts q0_ring q0_bestRing q0_nets q0_worked q0_then q0_plan q0_bestPlan q0_tried q0_tracks q0_kept q0_isKept q0_keptCame n_read i_houses i_weatherMany i_typed i_rowMany i_thrown i_length i_top i_at i_wrong i_ruleSize i_isAsked i_askedInches i_askedPath i_askedDay i_askedRoof i_askedBelow i_askedLoose i_slidesMany i_owedNow i_slidInto i_undoMany i_bestLength i_setOff i_letLie i_trackMany i_came a_read a_hold a_weather p1 r9 i_at9 i_wrong9 hf
      exact kX12_held_B l E (3 + n) (Nat.le_add_right _ _) (fhsp n) (ih.2.1 l E) q0 q0_now q0_hold q0_below q0_hay q0_weather q0_text q0_row q0_read q0_comes q0_rule q0_owedBy q0_undos q0_aside q0_acts q0_ring q0_bestRing q0_nets q0_worked q0_then q0_plan q0_bestPlan q0_tried q0_tracks q0_kept q0_isKept q0_keptCame n_read i_houses i_weatherMany i_typed i_rowMany i_thrown i_length i_top i_at i_wrong i_ruleSize i_isAsked i_askedInches i_askedPath i_askedDay i_askedRoof i_askedBelow i_askedLoose i_slidesMany i_owedNow i_slidInto i_undoMany i_bestLength i_setOff i_letLie i_trackMany i_came a_read a_hold a_weather p1 r9 i_at9 i_wrong9 hf
    · intro l E q0 q0_now q0_hold q0_below q0_hay q0_weather q0_text q0_row q0_read q0_comes q0_rule q0_owedBy q0_undos q0_aside q0_acts q0_ring q0_bestRing q0_nets q0_worked q0_then q0_plan q0_bestPlan q0_tried q0_tracks q0_kept q0_isKept q0_keptCame n_read i_houses i_weatherMany i_typed i_rowMany i_thrown i_length i_top i_at i_wrong i_ruleSize i_isAsked i_askedInches i_askedPath i_askedDay i_askedRoof i_askedBelow i_askedLoose i_slidesMany i_owedNow i_slidInto i_undoMany i_bestLength i_setOff i_letLie i_trackMany i_came a_read a_hold a_weather p1 r9 i_at9 i_wrong9 hf
      exact kX12_sum_B l E (3 + n) (Nat.le_add_right _ _) (fhsp n) (ih.2.2.1 l E) q0 q0_now q0_hold q0_below q0_hay q0_weather q0_text q0_row q0_read q0_comes q0_rule q0_owedBy q0_undos q0_aside q0_acts q0_ring q0_bestRing q0_nets q0_worked q0_then q0_plan q0_bestPlan q0_tried q0_tracks q0_kept q0_isKept q0_keptCame n_read i_houses i_weatherMany i_typed i_rowMany i_thrown i_length i_top i_at i_wrong i_ruleSize i_isAsked i_askedInches i_askedPath i_askedDay i_askedRoof i_askedBelow i_askedLoose i_slidesMany i_owedNow i_slidInto i_undoMany i_bestLength i_setOff i_letLie i_trackMany i_came a_read a_hold a_weather p1 r9 i_at9 i_wrong9 hf
    · intro l E q0 q0_now q0_hold q0_below q0_hay q0_weather q0_text q0_row q0_read q0_comes q0_rule q0_owedBy q0_undos q0_aside q0_acts q0_ring q0_bestRing q0_nets q0_worked q0_then q0_plan q0_bestPlan q0_tried q0_tracks q0_kept q0_isKept q0_keptCame n_read i_houses i_weatherMany i_typed i_rowMany i_thrown i_length i_top i_at i_wrong i_ruleSize i_isAsked i_askedInches i_askedPath i_askedDay i_askedRoof i_askedBelow i_askedLoose i_slidesMany i_owedNow i_slidInto i_undoMany i_bestLength i_setOff i_letLie i_trackMany i_came a_read a_hold a_weather p1 r9 i_at9 i_wrong9 hf
      exact kX12_product_B l E (3 + n) (Nat.le_add_right _ _) (fhsp n) (ih.2.2.2 l E) q0 q0_now q0_hold q0_below q0_hay q0_weather q0_text q0_row q0_read q0_comes q0_rule q0_owedBy q0_undos q0_aside q0_acts q0_ring q0_bestRing q0_nets q0_worked q0_then q0_plan q0_bestPlan q0_tried q0_tracks q0_kept q0_isKept q0_keptCame n_read i_houses i_weatherMany i_typed i_rowMany i_thrown i_length i_top i_at i_wrong i_ruleSize i_isAsked i_askedInches i_askedPath i_askedDay i_askedRoof i_askedBelow i_askedLoose i_slidesMany i_owedNow i_slidInto i_undoMany i_bestLength i_setOff i_letLie i_trackMany i_came a_read a_hold a_weather p1 r9 i_at9 i_wrong9 hf
    · intro l E q0 q0_now q0_hold q0_below q0_hay q0_weather q0_text q0_row q0_read q0_comes q0_rule q0_owedBy q0_undos q0_aside q0_acts q0_ring q0_bestRing q0_nets q0_worked q0_then q0_plan q0_bestPlan q0_tried q0_tracks q0_kept q0_isKept q0_keptCame n_read i_houses i_weatherMany i_typed i_rowMany i_thrown i_length i_top i_at i_wrong i_ruleSize i_isAsked i_askedInches i_askedPath i_askedDay i_askedRoof i_askedBelow i_askedLoose i_slidesMany i_owedNow i_slidInto i_undoMany i_bestLength i_setOff i_letLie i_trackMany i_came a_read a_hold a_weather p1 r9 i_at9 i_wrong9 hf
      exact kX12_thing_B l E (3 + n) (Nat.le_add_right _ _) (fhsp n) (ih.1 l E) (ih.2.2.2 l E) q0 q0_now q0_hold q0_below q0_hay q0_weather q0_text q0_row q0_read q0_comes q0_rule q0_owedBy q0_undos q0_aside q0_acts q0_ring q0_bestRing q0_nets q0_worked q0_then q0_plan q0_bestPlan q0_tried q0_tracks q0_kept q0_isKept q0_keptCame n_read i_houses i_weatherMany i_typed i_rowMany i_thrown i_length i_top i_at i_wrong i_ruleSize i_isAsked i_askedInches i_askedPath i_askedDay i_askedRoof i_askedBelow i_askedLoose i_slidesMany i_owedNow i_slidInto i_undoMany i_bestLength i_setOff i_letLie i_trackMany i_came a_read a_hold a_weather p1 r9 i_at9 i_wrong9 hf
theorem kX12_held (l : Launch) (E : ENV) (q0 : Nat) (q0_now : Nat) (q0_hold : Nat) (q0_below : Nat) (q0_hay : Nat) (q0_weather : Nat) (q0_text : Nat) (q0_row : Nat) (q0_read : Nat) (q0_comes : Nat) (q0_rule : Nat) (q0_owedBy : Nat) (q0_undos : Nat) (q0_aside : Nat) (q0_acts : Nat) (q0_ring : Nat) (q0_bestRing : Nat) (q0_nets : Nat) (q0_worked : Nat) (q0_then : Nat) (q0_plan : Nat) (q0_bestPlan : Nat) (q0_tried : Nat) (q0_tracks : Nat) (q0_kept : Nat) (q0_isKept : Nat) (q0_keptCame : Nat) (n_read : Nat) (i_houses : Int32) (i_weatherMany : Int32) (i_typed : Int32) (i_rowMany : Int32) (i_thrown : Int32) (i_length : Int32) (i_top : Int32) (i_at : Int32) (i_wrong : Int32) (i_ruleSize : Int32) (i_isAsked : Int32) (i_askedInches : Int32) (i_askedPath : Int32) (i_askedDay : Int32) (i_askedRoof : Int32) (i_askedBelow : Int32) (i_askedLoose : Int32) (i_slidesMany : Int32) (i_owedNow : Int32) (i_slidInto : Int32) (i_undoMany : Int32) (i_bestLength : Int32) (i_setOff : Int32) (i_letLie : Int32) (i_trackMany : Int32) (i_came : Int32) (a_read : Nat → Int32) (a_hold : Nat → Int32) (a_weather : Nat → Int32) (p1 : Int32) (r9 : Int32) (i_at9 : Int32) (i_wrong9 : Int32) (hf : fX12_held n_read i_weatherMany i_length i_top i_at i_wrong i_isAsked i_askedInches i_askedPath i_askedDay i_askedRoof i_askedBelow i_askedLoose a_read a_hold a_weather p1 = some (r9, i_at9, i_wrong9)) : CI l E yX12_held cX12_held 3 (some .int) 83 [.ref q0, .int p1] (WX12_held E q0 q0_now q0_hold q0_below q0_hay q0_weather q0_text q0_row q0_read q0_comes q0_rule q0_owedBy q0_undos q0_aside q0_acts q0_ring q0_bestRing q0_nets q0_worked q0_then q0_plan q0_bestPlan q0_tried q0_tracks q0_kept q0_isKept q0_keptCame n_read i_houses i_weatherMany i_typed i_rowMany i_thrown i_length i_top i_at i_wrong i_ruleSize i_isAsked i_askedInches i_askedPath i_askedDay i_askedRoof i_askedBelow i_askedLoose i_slidesMany i_owedNow i_slidInto i_undoMany i_bestLength i_setOff i_letLie i_trackMany i_came a_read a_hold a_weather) (WX12_held E q0 q0_now q0_hold q0_below q0_hay q0_weather q0_text q0_row q0_read q0_comes q0_rule q0_owedBy q0_undos q0_aside q0_acts q0_ring q0_bestRing q0_nets q0_worked q0_then q0_plan q0_bestPlan q0_tried q0_tracks q0_kept q0_isKept q0_keptCame n_read i_houses i_weatherMany i_typed i_rowMany i_thrown i_length i_top i_at9 i_wrong9 i_ruleSize i_isAsked i_askedInches i_askedPath i_askedDay i_askedRoof i_askedBelow i_askedLoose i_slidesMany i_owedNow i_slidInto i_undoMany i_bestLength i_setOff i_letLie i_trackMany i_came a_read a_hold a_weather) r9 := (khsp 80).1 l E q0 q0_now q0_hold q0_below q0_hay q0_weather q0_text q0_row q0_read q0_comes q0_rule q0_owedBy q0_undos q0_aside q0_acts q0_ring q0_bestRing q0_nets q0_worked q0_then q0_plan q0_bestPlan q0_tried q0_tracks q0_kept q0_isKept q0_keptCame n_read i_houses i_weatherMany i_typed i_rowMany i_thrown i_length i_top i_at i_wrong i_ruleSize i_isAsked i_askedInches i_askedPath i_askedDay i_askedRoof i_askedBelow i_askedLoose i_slidesMany i_owedNow i_slidInto i_undoMany i_bestLength i_setOff i_letLie i_trackMany i_came a_read a_hold a_weather p1 r9 i_at9 i_wrong9 hf
theorem kX12_sum (l : Launch) (E : ENV) (q0 : Nat) (q0_now : Nat) (q0_hold : Nat) (q0_below : Nat) (q0_hay : Nat) (q0_weather : Nat) (q0_text : Nat) (q0_row : Nat) (q0_read : Nat) (q0_comes : Nat) (q0_rule : Nat) (q0_owedBy : Nat) (q0_undos : Nat) (q0_aside : Nat) (q0_acts : Nat) (q0_ring : Nat) (q0_bestRing : Nat) (q0_nets : Nat) (q0_worked : Nat) (q0_then : Nat) (q0_plan : Nat) (q0_bestPlan : Nat) (q0_tried : Nat) (q0_tracks : Nat) (q0_kept : Nat) (q0_isKept : Nat) (q0_keptCame : Nat) (n_read : Nat) (i_houses : Int32) (i_weatherMany : Int32) (i_typed : Int32) (i_rowMany : Int32) (i_thrown : Int32) (i_length : Int32) (i_top : Int32) (i_at : Int32) (i_wrong : Int32) (i_ruleSize : Int32) (i_isAsked : Int32) (i_askedInches : Int32) (i_askedPath : Int32) (i_askedDay : Int32) (i_askedRoof : Int32) (i_askedBelow : Int32) (i_askedLoose : Int32) (i_slidesMany : Int32) (i_owedNow : Int32) (i_slidInto : Int32) (i_undoMany : Int32) (i_bestLength : Int32) (i_setOff : Int32) (i_letLie : Int32) (i_trackMany : Int32) (i_came : Int32) (a_read : Nat → Int32) (a_hold : Nat → Int32) (a_weather : Nat → Int32) (p1 : Int32) (r9 : Int32) (i_at9 : Int32) (i_wrong9 : Int32) (hf : fX12_sum n_read i_weatherMany i_length i_top i_at i_wrong i_isAsked i_askedInches i_askedPath i_askedDay i_askedRoof i_askedBelow i_askedLoose a_read a_hold a_weather p1 = some (r9, i_at9, i_wrong9)) : CI l E yX12_sum cX12_sum 5 (some .int) 83 [.ref q0, .int p1] (WX12_held E q0 q0_now q0_hold q0_below q0_hay q0_weather q0_text q0_row q0_read q0_comes q0_rule q0_owedBy q0_undos q0_aside q0_acts q0_ring q0_bestRing q0_nets q0_worked q0_then q0_plan q0_bestPlan q0_tried q0_tracks q0_kept q0_isKept q0_keptCame n_read i_houses i_weatherMany i_typed i_rowMany i_thrown i_length i_top i_at i_wrong i_ruleSize i_isAsked i_askedInches i_askedPath i_askedDay i_askedRoof i_askedBelow i_askedLoose i_slidesMany i_owedNow i_slidInto i_undoMany i_bestLength i_setOff i_letLie i_trackMany i_came a_read a_hold a_weather) (WX12_held E q0 q0_now q0_hold q0_below q0_hay q0_weather q0_text q0_row q0_read q0_comes q0_rule q0_owedBy q0_undos q0_aside q0_acts q0_ring q0_bestRing q0_nets q0_worked q0_then q0_plan q0_bestPlan q0_tried q0_tracks q0_kept q0_isKept q0_keptCame n_read i_houses i_weatherMany i_typed i_rowMany i_thrown i_length i_top i_at9 i_wrong9 i_ruleSize i_isAsked i_askedInches i_askedPath i_askedDay i_askedRoof i_askedBelow i_askedLoose i_slidesMany i_owedNow i_slidInto i_undoMany i_bestLength i_setOff i_letLie i_trackMany i_came a_read a_hold a_weather) r9 := (khsp 80).2.1 l E q0 q0_now q0_hold q0_below q0_hay q0_weather q0_text q0_row q0_read q0_comes q0_rule q0_owedBy q0_undos q0_aside q0_acts q0_ring q0_bestRing q0_nets q0_worked q0_then q0_plan q0_bestPlan q0_tried q0_tracks q0_kept q0_isKept q0_keptCame n_read i_houses i_weatherMany i_typed i_rowMany i_thrown i_length i_top i_at i_wrong i_ruleSize i_isAsked i_askedInches i_askedPath i_askedDay i_askedRoof i_askedBelow i_askedLoose i_slidesMany i_owedNow i_slidInto i_undoMany i_bestLength i_setOff i_letLie i_trackMany i_came a_read a_hold a_weather p1 r9 i_at9 i_wrong9 hf
theorem kX12_product (l : Launch) (E : ENV) (q0 : Nat) (q0_now : Nat) (q0_hold : Nat) (q0_below : Nat) (q0_hay : Nat) (q0_weather : Nat) (q0_text : Nat) (q0_row : Nat) (q0_read : Nat) (q0_comes : Nat) (q0_rule : Nat) (q0_owedBy : Nat) (q0_undos : Nat) (q0_aside : Nat) (q0_acts : Nat) (q0_ring : Nat) (q0_bestRing : Nat) (q0_nets : Nat) (q0_worked : Nat) (q0_then : Nat) (q0_plan : Nat) (q0_bestPlan : Nat) (q0_tried : Nat) (q0_tracks : Nat) (q0_kept : Nat) (q0_isKept : Nat) (q0_keptCame : Nat) (n_read : Nat) (i_houses : Int32) (i_weatherMany : Int32) (i_typed : Int32) (i_rowMany : Int32) (i_thrown : Int32) (i_length : Int32) (i_top : Int32) (i_at : Int32) (i_wrong : Int32) (i_ruleSize : Int32) (i_isAsked : Int32) (i_askedInches : Int32) (i_askedPath : Int32) (i_askedDay : Int32) (i_askedRoof : Int32) (i_askedBelow : Int32) (i_askedLoose : Int32) (i_slidesMany : Int32) (i_owedNow : Int32) (i_slidInto : Int32) (i_undoMany : Int32) (i_bestLength : Int32) (i_setOff : Int32) (i_letLie : Int32) (i_trackMany : Int32) (i_came : Int32) (a_read : Nat → Int32) (a_hold : Nat → Int32) (a_weather : Nat → Int32) (p1 : Int32) (r9 : Int32) (i_at9 : Int32) (i_wrong9 : Int32) (hf : fX12_product n_read i_weatherMany i_length i_top i_at i_wrong i_isAsked i_askedInches i_askedPath i_askedDay i_askedRoof i_askedBelow i_askedLoose a_read a_hold a_weather p1 = some (r9, i_at9, i_wrong9)) : CI l E yX12_product cX12_product 5 (some .int) 83 [.ref q0, .int p1] (WX12_held E q0 q0_now q0_hold q0_below q0_hay q0_weather q0_text q0_row q0_read q0_comes q0_rule q0_owedBy q0_undos q0_aside q0_acts q0_ring q0_bestRing q0_nets q0_worked q0_then q0_plan q0_bestPlan q0_tried q0_tracks q0_kept q0_isKept q0_keptCame n_read i_houses i_weatherMany i_typed i_rowMany i_thrown i_length i_top i_at i_wrong i_ruleSize i_isAsked i_askedInches i_askedPath i_askedDay i_askedRoof i_askedBelow i_askedLoose i_slidesMany i_owedNow i_slidInto i_undoMany i_bestLength i_setOff i_letLie i_trackMany i_came a_read a_hold a_weather) (WX12_held E q0 q0_now q0_hold q0_below q0_hay q0_weather q0_text q0_row q0_read q0_comes q0_rule q0_owedBy q0_undos q0_aside q0_acts q0_ring q0_bestRing q0_nets q0_worked q0_then q0_plan q0_bestPlan q0_tried q0_tracks q0_kept q0_isKept q0_keptCame n_read i_houses i_weatherMany i_typed i_rowMany i_thrown i_length i_top i_at9 i_wrong9 i_ruleSize i_isAsked i_askedInches i_askedPath i_askedDay i_askedRoof i_askedBelow i_askedLoose i_slidesMany i_owedNow i_slidInto i_undoMany i_bestLength i_setOff i_letLie i_trackMany i_came a_read a_hold a_weather) r9 := (khsp 80).2.2.1 l E q0 q0_now q0_hold q0_below q0_hay q0_weather q0_text q0_row q0_read q0_comes q0_rule q0_owedBy q0_undos q0_aside q0_acts q0_ring q0_bestRing q0_nets q0_worked q0_then q0_plan q0_bestPlan q0_tried q0_tracks q0_kept q0_isKept q0_keptCame n_read i_houses i_weatherMany i_typed i_rowMany i_thrown i_length i_top i_at i_wrong i_ruleSize i_isAsked i_askedInches i_askedPath i_askedDay i_askedRoof i_askedBelow i_askedLoose i_slidesMany i_owedNow i_slidInto i_undoMany i_bestLength i_setOff i_letLie i_trackMany i_came a_read a_hold a_weather p1 r9 i_at9 i_wrong9 hf
theorem kX12_thing (l : Launch) (E : ENV) (q0 : Nat) (q0_now : Nat) (q0_hold : Nat) (q0_below : Nat) (q0_hay : Nat) (q0_weather : Nat) (q0_text : Nat) (q0_row : Nat) (q0_read : Nat) (q0_comes : Nat) (q0_rule : Nat) (q0_owedBy : Nat) (q0_undos : Nat) (q0_aside : Nat) (q0_acts : Nat) (q0_ring : Nat) (q0_bestRing : Nat) (q0_nets : Nat) (q0_worked : Nat) (q0_then : Nat) (q0_plan : Nat) (q0_bestPlan : Nat) (q0_tried : Nat) (q0_tracks : Nat) (q0_kept : Nat) (q0_isKept : Nat) (q0_keptCame : Nat) (n_read : Nat) (i_houses : Int32) (i_weatherMany : Int32) (i_typed : Int32) (i_rowMany : Int32) (i_thrown : Int32) (i_length : Int32) (i_top : Int32) (i_at : Int32) (i_wrong : Int32) (i_ruleSize : Int32) (i_isAsked : Int32) (i_askedInches : Int32) (i_askedPath : Int32) (i_askedDay : Int32) (i_askedRoof : Int32) (i_askedBelow : Int32) (i_askedLoose : Int32) (i_slidesMany : Int32) (i_owedNow : Int32) (i_slidInto : Int32) (i_undoMany : Int32) (i_bestLength : Int32) (i_setOff : Int32) (i_letLie : Int32) (i_trackMany : Int32) (i_came : Int32) (a_read : Nat → Int32) (a_hold : Nat → Int32) (a_weather : Nat → Int32) (p1 : Int32) (r9 : Int32) (i_at9 : Int32) (i_wrong9 : Int32) (hf : fX12_thing n_read i_weatherMany i_length i_top i_at i_wrong i_isAsked i_askedInches i_askedPath i_askedDay i_askedRoof i_askedBelow i_askedLoose a_read a_hold a_weather p1 = some (r9, i_at9, i_wrong9)) : CI l E yX12_thing cX12_thing 4 (some .int) 83 [.ref q0, .int p1] (WX12_held E q0 q0_now q0_hold q0_below q0_hay q0_weather q0_text q0_row q0_read q0_comes q0_rule q0_owedBy q0_undos q0_aside q0_acts q0_ring q0_bestRing q0_nets q0_worked q0_then q0_plan q0_bestPlan q0_tried q0_tracks q0_kept q0_isKept q0_keptCame n_read i_houses i_weatherMany i_typed i_rowMany i_thrown i_length i_top i_at i_wrong i_ruleSize i_isAsked i_askedInches i_askedPath i_askedDay i_askedRoof i_askedBelow i_askedLoose i_slidesMany i_owedNow i_slidInto i_undoMany i_bestLength i_setOff i_letLie i_trackMany i_came a_read a_hold a_weather) (WX12_held E q0 q0_now q0_hold q0_below q0_hay q0_weather q0_text q0_row q0_read q0_comes q0_rule q0_owedBy q0_undos q0_aside q0_acts q0_ring q0_bestRing q0_nets q0_worked q0_then q0_plan q0_bestPlan q0_tried q0_tracks q0_kept q0_isKept q0_keptCame n_read i_houses i_weatherMany i_typed i_rowMany i_thrown i_length i_top i_at9 i_wrong9 i_ruleSize i_isAsked i_askedInches i_askedPath i_askedDay i_askedRoof i_askedBelow i_askedLoose i_slidesMany i_owedNow i_slidInto i_undoMany i_bestLength i_setOff i_letLie i_trackMany i_came a_read a_hold a_weather) r9 := (khsp 80).2.2.2 l E q0 q0_now q0_hold q0_below q0_hay q0_weather q0_text q0_row q0_read q0_comes q0_rule q0_owedBy q0_undos q0_aside q0_acts q0_ring q0_bestRing q0_nets q0_worked q0_then q0_plan q0_bestPlan q0_tried q0_tracks q0_kept q0_isKept q0_keptCame n_read i_houses i_weatherMany i_typed i_rowMany i_thrown i_length i_top i_at i_wrong i_ruleSize i_isAsked i_askedInches i_askedPath i_askedDay i_askedRoof i_askedBelow i_askedLoose i_slidesMany i_owedNow i_slidInto i_undoMany i_bestLength i_setOff i_letLie i_trackMany i_came a_read a_hold a_weather p1 r9 i_at9 i_wrong9 hf
theorem pf_RX12_183 {p : Program} {l : Launch} {e : Env} {R : Room} {s : State} {m : MethodId} {args : Array Value} {below : List Frame} {meth : Method} {c : Code} {H : Heap} {locs : List Loc} {cells slots : Nat} {Q : State → Prop} {E : ENV} {cc : ByteArray} {n : Nat} {r : Option FieldType} {pc : Nat} {ls : Array Slot} {rest : List Value} {a : Nat} {ws : va_W} {nm ds : String} {fs : List Value} {A : Nat → Prop} {H0 : Heap} {x : Int32} (C : Cx E A ⟨RX12, nm, ds⟩ cc n r p s m args meth c) (hP : va_P E.1 classes ws H) (hD : va_D A ws) (hS : va_S A H0 H locs) (q0 : Nat) (hb9 : narrow .boolean (.int x) = .int x) (hb8 : fits .boolean (.int x) = true) (he : ws[q0]? = some (a, .inr (12, fs))) (hl : 20 < fs.length) (hdg : decode cc pc = .ok (.putfield 183, 3))
    (kk : ∀ (H1 : Heap) (locs1 : List Loc), va_P E.1 classes (ws.set q0 (a, .inr (12, fs.set 20 (.int x)))) H1 → va_D A (ws.set q0 (a, .inr (12, fs.set 20 (.int x)))) → va_S A H0 H1 locs1 → W p l e R s m args below meth c H1 locs1 cells slots Q (F0 m (pc + 3) ls rest)) : W p l e R s m args below meth c H locs cells slots Q (F0 m pc ls (.int x :: .ref a :: rest)) :=
  va_put (C := RX12) (T := TX12) (N := 52) (ty := .boolean) (Ts := wl ⟨RX12, nm, ds⟩ cc n r) C.1 C.2.1 C.2.2.2.2.1 (fun w h => List.mem_cons_of_mem _ (inT12 w h)) tyX12 tyX12_ok nmX12 C.2.2.2.1 C.2.2.2.2.2.1 hP hD hS q0 he rfl 20 (by decide) (C.2.2.2.2.1 _ (List.mem_cons_of_mem _ q1346)) (fun _ h9 => h9) rfl (by decide +kernel) hb9 hb8 hl hdg kk
theorem q1344 : Cond.fieldLink RX12 35 "SnowForSummerModel" "rule" "[B" ∈ Tg := Tg_mem 1344 (by decide +kernel) (by decide +kernel)
theorem gf_RX12_35 {p : Program} {l : Launch} {e : Env} {R : Room} {s : State} {m : MethodId} {args : Array Value} {below : List Frame} {meth : Method} {c : Code} {H : Heap} {locs : List Loc} {cells slots : Nat} {Q : State → Prop} {E : ENV} {cc : ByteArray} {n : Nat} {r : Option FieldType} {pc : Nat} {ls : Array Slot} {rest : List Value} {a : Nat} {ws : va_W} {nm ds : String} {fs : List Value} {A : Nat → Prop} {v : Value} (C : Cx E A ⟨RX12, nm, ds⟩ cc n r p s m args meth c) (hP : va_P E.1 classes ws H) (q0 : Nat) (he : ws[q0]? = some (a, .inr (12, fs))) (hv : fs[18]? = some v) (hdg : decode cc pc = .ok (.getfield 35, 3))
    (kk : W p l e R s m args below meth c H locs cells slots Q (F0 m (pc + 3) ls (v :: rest))) : W p l e R s m args below meth c H locs cells slots Q (F0 m pc ls (.ref a :: rest)) :=
  va_get (C := RX12) (T := TX12) (N := 52) (Ts := wl ⟨RX12, nm, ds⟩ cc n r) C.1 C.2.1 C.2.2.2.2.1 (fun w h => List.mem_cons_of_mem _ (inT12 w h)) C.2.2.2.1 C.2.2.2.2.2.1 hP q0 he rfl 18 (by decide) (C.2.2.2.2.1 _ (List.mem_cons_of_mem _ q1344)) (fun _ h9 => h9) hv hdg kk
theorem q1345 : Cond.fieldLink RX12 211 "SnowForSummerModel" "ruleSize" "I" ∈ Tg := Tg_mem 1345 (by decide +kernel) (by decide +kernel)
theorem pf_RX12_211 {p : Program} {l : Launch} {e : Env} {R : Room} {s : State} {m : MethodId} {args : Array Value} {below : List Frame} {meth : Method} {c : Code} {H : Heap} {locs : List Loc} {cells slots : Nat} {Q : State → Prop} {E : ENV} {cc : ByteArray} {n : Nat} {r : Option FieldType} {pc : Nat} {ls : Array Slot} {rest : List Value} {a : Nat} {ws : va_W} {nm ds : String} {fs : List Value} {A : Nat → Prop} {H0 : Heap} {x : Int32} (C : Cx E A ⟨RX12, nm, ds⟩ cc n r p s m args meth c) (hP : va_P E.1 classes ws H) (hD : va_D A ws) (hS : va_S A H0 H locs) (q0 : Nat) (he : ws[q0]? = some (a, .inr (12, fs))) (hl : 19 < fs.length) (hdg : decode cc pc = .ok (.putfield 211, 3))
    (kk : ∀ (H1 : Heap) (locs1 : List Loc), va_P E.1 classes (ws.set q0 (a, .inr (12, fs.set 19 (.int x)))) H1 → va_D A (ws.set q0 (a, .inr (12, fs.set 19 (.int x)))) → va_S A H0 H1 locs1 → W p l e R s m args below meth c H1 locs1 cells slots Q (F0 m (pc + 3) ls rest)) : W p l e R s m args below meth c H locs cells slots Q (F0 m pc ls (.int x :: .ref a :: rest)) :=
  va_put (C := RX12) (T := TX12) (N := 52) (ty := .int) (Ts := wl ⟨RX12, nm, ds⟩ cc n r) C.1 C.2.1 C.2.2.2.2.1 (fun w h => List.mem_cons_of_mem _ (inT12 w h)) tyX12 tyX12_ok nmX12 C.2.2.2.1 C.2.2.2.2.2.1 hP hD hS q0 he rfl 19 (by decide) (C.2.2.2.2.1 _ (List.mem_cons_of_mem _ q1345)) (fun _ h9 => h9) rfl (by decide +kernel) rfl rfl hl hdg kk
theorem dX12_rule_0 : decode cX12_rule 0 = .ok (.aload_n 0, 1) := by decide +kernel
theorem dX12_rule_1 : decode cX12_rule 1 = .ok (.iconst 0, 1) := by decide +kernel
theorem dX12_rule_2 : decode cX12_rule 2 = .ok (.putfield 87, 3) := by decide +kernel
theorem dX12_rule_5 : decode cX12_rule 5 = .ok (.aload_n 0, 1) := by decide +kernel
theorem dX12_rule_6 : decode cX12_rule 6 = .ok (.getfield 105, 3) := by decide +kernel
theorem dX12_rule_9 : decode cX12_rule 9 = .ok (.istore_n 1, 1) := by decide +kernel
theorem dX12_rule_10 : decode cX12_rule 10 = .ok (.aload_n 0, 1) := by decide +kernel
theorem dX12_rule_11 : decode cX12_rule 11 = .ok (.aload_n 0, 1) := by decide +kernel
theorem dX12_rule_12 : decode cX12_rule 12 = .ok (.getfield 25, 3) := by decide +kernel
theorem dX12_rule_15 : decode cX12_rule 15 = .ok (.iload_n 1, 1) := by decide +kernel
theorem dX12_rule_16 : decode cX12_rule 16 = .ok (.bipush 40, 2) := by decide +kernel
theorem dX12_rule_18 : decode cX12_rule 18 = .ok (.invokevirtual 139, 3) := by decide +kernel
theorem dX12_rule_21 : decode cX12_rule 21 = .ok (.aload_n 0, 1) := by decide +kernel
theorem dX12_rule_22 : decode cX12_rule 22 = .ok (.iconst 0, 1) := by decide +kernel
theorem dX12_rule_23 : decode cX12_rule 23 = .ok (.putfield 105, 3) := by decide +kernel
theorem dX12_rule_26 : decode cX12_rule 26 = .ok (.aload_n 0, 1) := by decide +kernel
theorem dX12_rule_27 : decode cX12_rule 27 = .ok (.iconst 0, 1) := by decide +kernel
theorem dX12_rule_28 : decode cX12_rule 28 = .ok (.putfield 183, 3) := by decide +kernel
theorem dX12_rule_31 : decode cX12_rule 31 = .ok (.iload_n 1, 1) := by decide +kernel
theorem dX12_rule_32 : decode cX12_rule 32 = .ok (.ifCond .le 39, 3) := by decide +kernel
theorem dX12_rule_35 : decode cX12_rule 35 = .ok (.aload_n 0, 1) := by decide +kernel
theorem dX12_rule_36 : decode cX12_rule 36 = .ok (.iconst 0, 1) := by decide +kernel
theorem dX12_rule_37 : decode cX12_rule 37 = .ok (.invokevirtual 180, 3) := by decide +kernel
theorem dX12_rule_40 : decode cX12_rule 40 = .ok (.pop, 1) := by decide +kernel
theorem dX12_rule_41 : decode cX12_rule 41 = .ok (.aload_n 0, 1) := by decide +kernel
theorem dX12_rule_42 : decode cX12_rule 42 = .ok (.getfield 117, 3) := by decide +kernel
theorem dX12_rule_45 : decode cX12_rule 45 = .ok (.iload_n 1, 1) := by decide +kernel
theorem dX12_rule_46 : decode cX12_rule 46 = .ok (.if_icmp .ge 11, 3) := by decide +kernel
theorem dX12_rule_49 : decode cX12_rule 49 = .ok (.aload_n 0, 1) := by decide +kernel
theorem dX12_rule_50 : decode cX12_rule 50 = .ok (.aload_n 0, 1) := by decide +kernel
theorem dX12_rule_51 : decode cX12_rule 51 = .ok (.getfield 117, 3) := by decide +kernel
theorem dX12_rule_54 : decode cX12_rule 54 = .ok (.invokevirtual 135, 3) := by decide +kernel
theorem dX12_rule_57 : decode cX12_rule 57 = .ok (.aload_n 0, 1) := by decide +kernel
theorem dX12_rule_58 : decode cX12_rule 58 = .ok (.invokevirtual 123, 3) := by decide +kernel
theorem dX12_rule_61 : decode cX12_rule 61 = .ok (.ifCond .ne 10, 3) := by decide +kernel
theorem dX12_rule_64 : decode cX12_rule 64 = .ok (.iconst (-1), 1) := by decide +kernel
theorem dX12_rule_65 : decode cX12_rule 65 = .ok (.aload_n 0, 1) := by decide +kernel
theorem dX12_rule_66 : decode cX12_rule 66 = .ok (.getfield 120, 3) := by decide +kernel
theorem dX12_rule_69 : decode cX12_rule 69 = .ok (.isub, 1) := by decide +kernel
theorem dX12_rule_70 : decode cX12_rule 70 = .ok (.ireturn, 1) := by decide +kernel
theorem dX12_rule_71 : decode cX12_rule 71 = .ok (.iconst 0, 1) := by decide +kernel
theorem dX12_rule_72 : decode cX12_rule 72 = .ok (.istore_n 2, 1) := by decide +kernel
theorem dX12_rule_73 : decode cX12_rule 73 = .ok (.iload_n 2, 1) := by decide +kernel
theorem dX12_rule_74 : decode cX12_rule 74 = .ok (.iload_n 1, 1) := by decide +kernel
theorem dX12_rule_75 : decode cX12_rule 75 = .ok (.if_icmp .ge 21, 3) := by decide +kernel
theorem dX12_rule_78 : decode cX12_rule 78 = .ok (.aload_n 0, 1) := by decide +kernel
theorem dX12_rule_79 : decode cX12_rule 79 = .ok (.getfield 35, 3) := by decide +kernel
theorem dX12_rule_82 : decode cX12_rule 82 = .ok (.iload_n 2, 1) := by decide +kernel
theorem dX12_rule_83 : decode cX12_rule 83 = .ok (.aload_n 0, 1) := by decide +kernel
theorem dX12_rule_84 : decode cX12_rule 84 = .ok (.getfield 25, 3) := by decide +kernel
theorem dX12_rule_87 : decode cX12_rule 87 = .ok (.iload_n 2, 1) := by decide +kernel
theorem dX12_rule_88 : decode cX12_rule 88 = .ok (.baload, 1) := by decide +kernel
theorem dX12_rule_89 : decode cX12_rule 89 = .ok (.bastore, 1) := by decide +kernel
theorem dX12_rule_90 : decode cX12_rule 90 = .ok (.iinc 2 1, 3) := by decide +kernel
theorem dX12_rule_93 : decode cX12_rule 93 = .ok (.goto (-20), 3) := by decide +kernel
theorem dX12_rule_96 : decode cX12_rule 96 = .ok (.aload_n 0, 1) := by decide +kernel
theorem dX12_rule_97 : decode cX12_rule 97 = .ok (.iload_n 1, 1) := by decide +kernel
theorem dX12_rule_98 : decode cX12_rule 98 = .ok (.putfield 211, 3) := by decide +kernel
theorem dX12_rule_101 : decode cX12_rule 101 = .ok (.iconst 0, 1) := by decide +kernel
theorem dX12_rule_102 : decode cX12_rule 102 = .ok (.ireturn, 1) := by decide +kernel
def WX12_rule (E : ENV) (q0 : Nat) (q0_now : Nat) (q0_hold : Nat) (q0_below : Nat) (q0_hay : Nat) (q0_weather : Nat) (q0_text : Nat) (q0_row : Nat) (q0_comes : Nat) (q0_rule : Nat) (q0_owedBy : Nat) (q0_undos : Nat) (q0_aside : Nat) (q0_acts : Nat) (q0_ring : Nat) (q0_bestRing : Nat) (q0_nets : Nat) (q0_worked : Nat) (q0_then : Nat) (q0_plan : Nat) (q0_bestPlan : Nat) (q0_tried : Nat) (q0_tracks : Nat) (q0_kept : Nat) (q0_isKept : Nat) (q0_keptCame : Nat) (i_houses : Int32) (i_weatherMany : Int32) (i_typed : Int32) (i_rowMany : Int32) (i_thrown : Int32) (r_read : Nat) (i_length : Int32) (i_top : Int32) (i_at : Int32) (i_wrong : Int32) (i_ruleSize : Int32) (i_isAsked : Int32) (i_askedInches : Int32) (i_askedPath : Int32) (i_askedDay : Int32) (i_askedRoof : Int32) (i_askedBelow : Int32) (i_askedLoose : Int32) (i_slidesMany : Int32) (i_owedNow : Int32) (i_slidInto : Int32) (i_undoMany : Int32) (i_bestLength : Int32) (i_setOff : Int32) (i_letLie : Int32) (i_trackMany : Int32) (i_came : Int32) (a_text : Nat → Int32) (a_hold : Nat → Int32) (a_weather : Nat → Int32) (a_rule : Nat → Int32) : va_W := [(q0, .inr (12, [.ref q0_now, .int i_houses, .ref q0_hold, .ref q0_below, .ref q0_hay, .ref q0_weather, .int i_weatherMany, .ref q0_text, .int i_typed, .ref q0_row, .int i_rowMany, .int i_thrown, rdv r_read q0_text q0_rule, .int i_length, .int i_top, .int i_at, .int i_wrong, .ref q0_comes, .ref q0_rule, .int i_ruleSize, .int i_isAsked, .int i_askedInches, .int i_askedPath, .int i_askedDay, .int i_askedRoof, .int i_askedBelow, .int i_askedLoose, .int i_slidesMany, .int i_owedNow, .ref q0_owedBy, .int i_slidInto, .ref q0_undos, .int i_undoMany, .ref q0_aside, .ref q0_acts, .ref q0_ring, .ref q0_bestRing, .int i_bestLength, .ref q0_nets, .ref q0_worked, .ref q0_then, .ref q0_plan, .ref q0_bestPlan, .ref q0_tried, .int i_setOff, .int i_letLie, .ref q0_tracks, .int i_trackMany, .int i_came, .ref q0_kept, .ref q0_isKept, .ref q0_keptCame])), (q0_text, .inl (E.2.2.1, 80, .inl a_text)), (q0_hold, .inl (E.2.1, 7, .inl a_hold)), (q0_weather, .inl (E.2.1, 40, .inl a_weather)), (q0_rule, .inl (E.2.2.1, 40, .inl a_rule))]
set_option maxHeartbeats 4000000 in
set_option maxRecDepth 20000 in
theorem kX12_rule (l : Launch) (E : ENV) (q0 : Nat) (q0_now : Nat) (q0_hold : Nat) (q0_below : Nat) (q0_hay : Nat) (q0_weather : Nat) (q0_text : Nat) (q0_row : Nat) (q0_comes : Nat) (q0_rule : Nat) (q0_owedBy : Nat) (q0_undos : Nat) (q0_aside : Nat) (q0_acts : Nat) (q0_ring : Nat) (q0_bestRing : Nat) (q0_nets : Nat) (q0_worked : Nat) (q0_then : Nat) (q0_plan : Nat) (q0_bestPlan : Nat) (q0_tried : Nat) (q0_tracks : Nat) (q0_kept : Nat) (q0_isKept : Nat) (q0_keptCame : Nat) (i_houses : Int32) (i_weatherMany : Int32) (i_typed : Int32) (i_rowMany : Int32) (i_thrown : Int32) (r_read : Nat) (i_length : Int32) (i_top : Int32) (i_at : Int32) (i_wrong : Int32) (i_ruleSize : Int32) (i_isAsked : Int32) (i_askedInches : Int32) (i_askedPath : Int32) (i_askedDay : Int32) (i_askedRoof : Int32) (i_askedBelow : Int32) (i_askedLoose : Int32) (i_slidesMany : Int32) (i_owedNow : Int32) (i_slidInto : Int32) (i_undoMany : Int32) (i_bestLength : Int32) (i_setOff : Int32) (i_letLie : Int32) (i_trackMany : Int32) (i_came : Int32) (a_text : Nat → Int32) (a_hold : Nat → Int32) (a_weather : Nat → Int32) (a_rule : Nat → Int32) (r9 : Int32) (i_typed9 : Int32) (i_thrown9 : Int32) (r_read9 : Nat) (i_length9 : Int32) (i_top9 : Int32) (i_at9 : Int32) (i_wrong9 : Int32) (i_ruleSize9 : Int32) (i_isAsked9 : Int32) (a_rule9 : Nat → Int32) (hf : fX12_rule i_weatherMany i_typed i_thrown r_read i_length i_top i_at i_wrong i_ruleSize i_isAsked i_askedInches i_askedPath i_askedDay i_askedRoof i_askedBelow i_askedLoose a_text a_hold a_weather a_rule = some (r9, i_typed9, i_thrown9, r_read9, i_length9, i_top9, i_at9, i_wrong9, i_ruleSize9, i_isAsked9, a_rule9)) : CI l E yX12_rule cX12_rule 3 (some .int) 84 [.ref q0] (WX12_rule E q0 q0_now q0_hold q0_below q0_hay q0_weather q0_text q0_row q0_comes q0_rule q0_owedBy q0_undos q0_aside q0_acts q0_ring q0_bestRing q0_nets q0_worked q0_then q0_plan q0_bestPlan q0_tried q0_tracks q0_kept q0_isKept q0_keptCame i_houses i_weatherMany i_typed i_rowMany i_thrown r_read i_length i_top i_at i_wrong i_ruleSize i_isAsked i_askedInches i_askedPath i_askedDay i_askedRoof i_askedBelow i_askedLoose i_slidesMany i_owedNow i_slidInto i_undoMany i_bestLength i_setOff i_letLie i_trackMany i_came a_text a_hold a_weather a_rule) (WX12_rule E q0 q0_now q0_hold q0_below q0_hay q0_weather q0_text q0_row q0_comes q0_rule q0_owedBy q0_undos q0_aside q0_acts q0_ring q0_bestRing q0_nets q0_worked q0_then q0_plan q0_bestPlan q0_tried q0_tracks q0_kept q0_isKept q0_keptCame i_houses i_weatherMany i_typed9 i_rowMany i_thrown9 r_read9 i_length9 i_top9 i_at9 i_wrong9 i_ruleSize9 i_isAsked9 i_askedInches i_askedPath i_askedDay i_askedRoof i_askedBelow i_askedLoose i_slidesMany i_owedNow i_slidInto i_undoMany i_bestLength i_setOff i_letLie i_trackMany i_came a_text a_hold a_weather a_rule9) r9 := by
  refine begI (by decide +kernel) (Nat.le_of_ble_eq_true rfl) ?_
  intro p e s m args below meth c A Q C hA hret
  have hx := C.1
  have hb := C.2.1
  have L73 : ∀ (v1 : Int32) (i_typed : Int32) (i_thrown : Int32) (i_length : Int32) (i_top : Int32) (i_at : Int32) (i_wrong : Int32) (i_ruleSize : Int32) (i_isAsked : Int32), ∀ (n : Nat) (v2 : Int32) (a_rule : Nat → Int32) (o : (Nat → Int32)), fX12_rule_L73 a_text v1 n v2 a_rule = some o → (GO p l e 84 s m args below meth c Q E A 3 96 [] [(0, .ref q0), (1, .int v1)] (WX12_rule E q0 q0_now q0_hold q0_below q0_hay q0_weather q0_text q0_row q0_comes q0_rule q0_owedBy q0_undos q0_aside q0_acts q0_ring q0_bestRing q0_nets q0_worked q0_then q0_plan q0_bestPlan q0_tried q0_tracks q0_kept q0_isKept q0_keptCame i_houses i_weatherMany i_typed i_rowMany i_thrown 1 i_length i_top i_at i_wrong i_ruleSize i_isAsked i_askedInches i_askedPath i_askedDay i_askedRoof i_askedBelow i_askedLoose i_slidesMany i_owedNow i_slidInto i_undoMany i_bestLength i_setOff i_letLie i_trackMany i_came a_text a_hold a_weather o)) → GO p l e 84 s m args below meth c Q E A 3 73 [] [(0, .ref q0), (1, .int v1), (2, .int v2)] (WX12_rule E q0 q0_now q0_hold q0_below q0_hay q0_weather q0_text q0_row q0_comes q0_rule q0_owedBy q0_undos q0_aside q0_acts q0_ring q0_bestRing q0_nets q0_worked q0_then q0_plan q0_bestPlan q0_tried q0_tracks q0_kept q0_isKept q0_keptCame i_houses i_weatherMany i_typed i_rowMany i_thrown 1 i_length i_top i_at i_wrong i_ruleSize i_isAsked i_askedInches i_askedPath i_askedDay i_askedRoof i_askedBelow i_askedLoose i_slidesMany i_owedNow i_slidInto i_undoMany i_bestLength i_setOff i_letLie i_trackMany i_came a_text a_hold a_weather a_rule) := by
    intro v1 i_typed i_thrown i_length i_top i_at i_wrong i_ruleSize i_isAsked
    intro n
    induction n with
    | zero =>
      intro v2 a_rule o hf
      have hf : none = some o := hf
      cases hf
    | succ n ih =>
      intro v2 a_rule o hf hE
      intro H locs ls hl hP hD hS
      rw [fX12_rule_L73] at hf
      refine lv_iload_n hx hb dX12_rule_73 rfl (lv_at hl 2 rfl) ?_
      refine lv_iload_n hx hb dX12_rule_74 rfl (lv_at hl 1 rfl) ?_
      refine lv_icmp_ge (tgt := 96) hx hb dX12_rule_75 (by decide) (fun c4 => ?_) (fun c4 => ?_)
      · rw [if_pos c4] at hf
        have hf := Option.some.inj hf
        subst hf
        exact hE _ _ _ (lv_sub hl [0, 1] rfl) hP hD hS
      · rw [if_neg c4] at hf
        refine lv_aload_n hx hb dX12_rule_78 rfl (lv_at hl 0 rfl) ?_
        refine gf_RX12_35 C hP 0 rfl rfl dX12_rule_79 ?_
        refine lv_iload_n hx hb dX12_rule_82 rfl (lv_at hl 2 rfl) ?_
        refine lv_aload_n hx hb dX12_rule_83 rfl (lv_at hl 0 rfl) ?_
        refine gf_RX12_25 C hP 0 rfl rfl dX12_rule_84 ?_
        refine lv_iload_n hx hb dX12_rule_87 rfl (lv_at hl 2 rfl) ?_
        obtain ⟨g5, hf⟩ := gd_some hf
        refine va_bald hx hb C.2.2.2.2.2.1 hP 1 1 rfl rfl (vin_in g5) dX12_rule_88 ?_
        obtain ⟨g6, hf⟩ := gd_some hf
        refine va_bast hx hb C.2.2.2.2.2.1 hP hD hS 4 1 rfl rfl (vin_in g6) dX12_rule_89 (fun H locs hP hD hS => ?_)
        have hP : va_P E.1 classes (WX12_rule E q0 q0_now q0_hold q0_below q0_hay q0_weather q0_text q0_row q0_comes q0_rule q0_owedBy q0_undos q0_aside q0_acts q0_ring q0_bestRing q0_nets q0_worked q0_then q0_plan q0_bestPlan q0_tried q0_tracks q0_kept q0_isKept q0_keptCame i_houses i_weatherMany i_typed i_rowMany i_thrown 1 i_length i_top i_at i_wrong i_ruleSize i_isAsked i_askedInches i_askedPath i_askedDay i_askedRoof i_askedBelow i_askedLoose i_slidesMany i_owedNow i_slidInto i_undoMany i_bestLength i_setOff i_letLie i_trackMany i_came a_text a_hold a_weather ((upd a_rule (v2 : Int32).toNatClampNeg (vp_nar .byte ((a_text (v2 : Int32).toNatClampNeg)))))) H := hP
        have hD : va_D A (WX12_rule E q0 q0_now q0_hold q0_below q0_hay q0_weather q0_text q0_row q0_comes q0_rule q0_owedBy q0_undos q0_aside q0_acts q0_ring q0_bestRing q0_nets q0_worked q0_then q0_plan q0_bestPlan q0_tried q0_tracks q0_kept q0_isKept q0_keptCame i_houses i_weatherMany i_typed i_rowMany i_thrown 1 i_length i_top i_at i_wrong i_ruleSize i_isAsked i_askedInches i_askedPath i_askedDay i_askedRoof i_askedBelow i_askedLoose i_slidesMany i_owedNow i_slidInto i_undoMany i_bestLength i_setOff i_letLie i_trackMany i_came a_text a_hold a_weather ((upd a_rule (v2 : Int32).toNatClampNeg (vp_nar .byte ((a_text (v2 : Int32).toNatClampNeg)))))) := hD
        refine lv_iinc (v := (v2 + 1)) (lv' := [(2, .int ((v2 + 1))), (0, .ref q0), (1, .int v1)]) hx hb dX12_rule_90 hl (k := 2) rfl rfl (by decide) rfl (fun ls hl => ?_)
        refine lv_goto (tgt := 73) hx hb dX12_rule_93 (by decide) ?_
        exact ih ((v2 + 1)) ((upd a_rule (v2 : Int32).toNatClampNeg (vp_nar .byte ((a_text (v2 : Int32).toNatClampNeg))))) _ hf hE _ _ _ (lv_sub hl [1, 2, 0] rfl) hP hD hS
  have J57 : ∀ (v1 : Int32) (i_typed : Int32) (i_thrown : Int32) (i_length : Int32) (i_top : Int32) (i_at : Int32) (i_wrong : Int32) (i_ruleSize : Int32) (i_isAsked : Int32) (a_rule : Nat → Int32), fX12_rule_J57 a_text v1 i_typed i_thrown i_length i_top i_at i_wrong i_ruleSize i_isAsked a_rule = some (r9, i_typed9, i_thrown9, r_read9, i_length9, i_top9, i_at9, i_wrong9, i_ruleSize9, i_isAsked9, a_rule9) → GO p l e 84 s m args below meth c Q E A 3 57 [] [(0, .ref q0), (1, .int v1)] (WX12_rule E q0 q0_now q0_hold q0_below q0_hay q0_weather q0_text q0_row q0_comes q0_rule q0_owedBy q0_undos q0_aside q0_acts q0_ring q0_bestRing q0_nets q0_worked q0_then q0_plan q0_bestPlan q0_tried q0_tracks q0_kept q0_isKept q0_keptCame i_houses i_weatherMany i_typed i_rowMany i_thrown 1 i_length i_top i_at i_wrong i_ruleSize i_isAsked i_askedInches i_askedPath i_askedDay i_askedRoof i_askedBelow i_askedLoose i_slidesMany i_owedNow i_slidInto i_undoMany i_bestLength i_setOff i_letLie i_trackMany i_came a_text a_hold a_weather a_rule) := by
    intro v1 i_typed i_thrown i_length i_top i_at i_wrong i_ruleSize i_isAsked a_rule hf H locs ls hl hP hD hS
    unfold fX12_rule_J57 at hf
    refine lv_aload_n hx hb dX12_rule_57 rfl (lv_at hl 0 rfl) ?_
    obtain ⟨o12, hg13, hf⟩ := bd_some hf
    refine k_VI (As := []) C K_RX12_123 (Nat.le_of_ble_eq_true rfl) (Nat.le_of_ble_eq_true rfl) (kX12_fine l E q0 q0_now q0_hold q0_below q0_hay q0_weather q0_text q0_row q0_comes q0_rule q0_owedBy q0_undos q0_aside q0_acts q0_ring q0_bestRing q0_nets q0_worked q0_then q0_plan q0_bestPlan q0_tried q0_tracks q0_kept q0_isKept q0_keptCame i_houses i_weatherMany i_typed i_rowMany i_thrown ((rdv 1 q0_text q0_rule)) i_length i_top i_at i_wrong i_ruleSize i_isAsked i_askedInches i_askedPath i_askedDay i_askedRoof i_askedBelow i_askedLoose i_slidesMany i_owedNow i_slidInto i_undoMany i_bestLength i_setOff i_letLie i_trackMany i_came o12 hg13) [0] rfl rfl rfl (ci := 12) rfl rfl (q0 := 0) rfl hP hD hS hA hl.1 (Nat.le_of_ble_eq_true rfl) rfl dX12_rule_58 (fun H locs hP hD hS => ?_)
    have hP : va_P E.1 classes (WX12_rule E q0 q0_now q0_hold q0_below q0_hay q0_weather q0_text q0_row q0_comes q0_rule q0_owedBy q0_undos q0_aside q0_acts q0_ring q0_bestRing q0_nets q0_worked q0_then q0_plan q0_bestPlan q0_tried q0_tracks q0_kept q0_isKept q0_keptCame i_houses i_weatherMany i_typed i_rowMany i_thrown 1 i_length i_top i_at i_wrong i_ruleSize i_isAsked i_askedInches i_askedPath i_askedDay i_askedRoof i_askedBelow i_askedLoose i_slidesMany i_owedNow i_slidInto i_undoMany i_bestLength i_setOff i_letLie i_trackMany i_came a_text a_hold a_weather a_rule) H := hP
    have hD : va_D A (WX12_rule E q0 q0_now q0_hold q0_below q0_hay q0_weather q0_text q0_row q0_comes q0_rule q0_owedBy q0_undos q0_aside q0_acts q0_ring q0_bestRing q0_nets q0_worked q0_then q0_plan q0_bestPlan q0_tried q0_tracks q0_kept q0_isKept q0_keptCame i_houses i_weatherMany i_typed i_rowMany i_thrown 1 i_length i_top i_at i_wrong i_ruleSize i_isAsked i_askedInches i_askedPath i_askedDay i_askedRoof i_askedBelow i_askedLoose i_slidesMany i_owedNow i_slidInto i_undoMany i_bestLength i_setOff i_letLie i_trackMany i_came a_text a_hold a_weather a_rule) := hD
    refine lv_if_ne (tgt := 71) hx hb dX12_rule_61 (by decide) (fun c14 => ?_) (fun c14 => ?_)
    · rw [if_neg c14] at hf
      refine lv_iconst (v := 0) hx hb dX12_rule_71 (by decide) ?_
      refine lv_istore_n (lv' := [(2, .int 0), (0, .ref q0), (1, .int v1)]) hx hb dX12_rule_72 rfl hl (by decide) rfl (fun ls hl => ?_)
      obtain ⟨o15, hg16, hf⟩ := bd_some hf
      refine L73 v1 i_typed i_thrown i_length i_top i_at i_wrong i_ruleSize i_isAsked FU 0 a_rule o15 hg16 ?_ _ _ _ (lv_sub hl [1, 2, 0] rfl) hP hD hS
      intro H locs ls hl hP hD hS
      refine lv_aload_n hx hb dX12_rule_96 rfl (lv_at hl 0 rfl) ?_
      refine lv_iload_n hx hb dX12_rule_97 rfl (lv_at hl 1 rfl) ?_
      refine pf_RX12_211 C hP hD hS 0 rfl (Nat.le_of_ble_eq_true rfl) dX12_rule_98 (fun H locs hP hD hS => ?_)
      have hP : va_P E.1 classes (WX12_rule E q0 q0_now q0_hold q0_below q0_hay q0_weather q0_text q0_row q0_comes q0_rule q0_owedBy q0_undos q0_aside q0_acts q0_ring q0_bestRing q0_nets q0_worked q0_then q0_plan q0_bestPlan q0_tried q0_tracks q0_kept q0_isKept q0_keptCame i_houses i_weatherMany i_typed i_rowMany i_thrown 1 i_length i_top i_at i_wrong v1 i_isAsked i_askedInches i_askedPath i_askedDay i_askedRoof i_askedBelow i_askedLoose i_slidesMany i_owedNow i_slidInto i_undoMany i_bestLength i_setOff i_letLie i_trackMany i_came a_text a_hold a_weather o15) H := hP
      have hD : va_D A (WX12_rule E q0 q0_now q0_hold q0_below q0_hay q0_weather q0_text q0_row q0_comes q0_rule q0_owedBy q0_undos q0_aside q0_acts q0_ring q0_bestRing q0_nets q0_worked q0_then q0_plan q0_bestPlan q0_tried q0_tracks q0_kept q0_isKept q0_keptCame i_houses i_weatherMany i_typed i_rowMany i_thrown 1 i_length i_top i_at i_wrong v1 i_isAsked i_askedInches i_askedPath i_askedDay i_askedRoof i_askedBelow i_askedLoose i_slidesMany i_owedNow i_slidInto i_undoMany i_bestLength i_setOff i_letLie i_trackMany i_came a_text a_hold a_weather o15) := hD
      refine lv_iconst (v := 0) hx hb dX12_rule_101 (by decide) ?_
      have hj0 := Option.some.inj hf
      obtain ⟨ha0, hj1⟩ := Prod.mk.inj hj0
      obtain ⟨ha1, hj2⟩ := Prod.mk.inj hj1
      obtain ⟨ha2, hj3⟩ := Prod.mk.inj hj2
      obtain ⟨ha3, hj4⟩ := Prod.mk.inj hj3
      obtain ⟨ha4, hj5⟩ := Prod.mk.inj hj4
      obtain ⟨ha5, hj6⟩ := Prod.mk.inj hj5
      obtain ⟨ha6, hj7⟩ := Prod.mk.inj hj6
      obtain ⟨ha7, hj8⟩ := Prod.mk.inj hj7
      obtain ⟨ha8, hj9⟩ := Prod.mk.inj hj8
      obtain ⟨ha9, hj10⟩ := Prod.mk.inj hj9
      subst ha0
      subst ha1
      subst ha2
      subst ha3
      subst ha4
      subst ha5
      subst ha6
      subst ha7
      subst ha8
      subst ha9
      subst hj10
      exact hret _ _ _ _ dX12_rule_102 rfl hP hD hS
    · rw [if_pos c14] at hf
      refine lv_iconst (v := (-1)) hx hb dX12_rule_64 (by decide) ?_
      refine lv_aload_n hx hb dX12_rule_65 rfl (lv_at hl 0 rfl) ?_
      refine gf_RX12_120 C hP 0 rfl rfl dX12_rule_66 ?_
      refine lv_isub hx hb dX12_rule_69 ?_
      have hj0 := Option.some.inj hf
      obtain ⟨ha0, hj1⟩ := Prod.mk.inj hj0
      obtain ⟨ha1, hj2⟩ := Prod.mk.inj hj1
      obtain ⟨ha2, hj3⟩ := Prod.mk.inj hj2
      obtain ⟨ha3, hj4⟩ := Prod.mk.inj hj3
      obtain ⟨ha4, hj5⟩ := Prod.mk.inj hj4
      obtain ⟨ha5, hj6⟩ := Prod.mk.inj hj5
      obtain ⟨ha6, hj7⟩ := Prod.mk.inj hj6
      obtain ⟨ha7, hj8⟩ := Prod.mk.inj hj7
      obtain ⟨ha8, hj9⟩ := Prod.mk.inj hj8
      obtain ⟨ha9, hj10⟩ := Prod.mk.inj hj9
      subst ha0
      subst ha1
      subst ha2
      subst ha3
      subst ha4
      subst ha5
      subst ha6
      subst ha7
      subst ha8
      subst ha9
      subst hj10
      exact hret _ _ _ _ dX12_rule_70 rfl hP hD hS
  intro H locs ls hl hP hD hS
  have hl : lv_has ls 3 [(0, .ref q0)] := hl
  unfold fX12_rule at hf
  refine lv_aload_n hx hb dX12_rule_0 rfl (lv_at hl 0 rfl) ?_
  refine lv_iconst (v := 0) hx hb dX12_rule_1 (by decide) ?_
  refine pf_RX12_87 C hP hD hS 0 rfl (Nat.le_of_ble_eq_true rfl) dX12_rule_2 (fun H locs hP hD hS => ?_)
  have hP : va_P E.1 classes (WX12_rule E q0 q0_now q0_hold q0_below q0_hay q0_weather q0_text q0_row q0_comes q0_rule q0_owedBy q0_undos q0_aside q0_acts q0_ring q0_bestRing q0_nets q0_worked q0_then q0_plan q0_bestPlan q0_tried q0_tracks q0_kept q0_isKept q0_keptCame i_houses i_weatherMany i_typed i_rowMany 0 r_read i_length i_top i_at i_wrong i_ruleSize i_isAsked i_askedInches i_askedPath i_askedDay i_askedRoof i_askedBelow i_askedLoose i_slidesMany i_owedNow i_slidInto i_undoMany i_bestLength i_setOff i_letLie i_trackMany i_came a_text a_hold a_weather a_rule) H := hP
  have hD : va_D A (WX12_rule E q0 q0_now q0_hold q0_below q0_hay q0_weather q0_text q0_row q0_comes q0_rule q0_owedBy q0_undos q0_aside q0_acts q0_ring q0_bestRing q0_nets q0_worked q0_then q0_plan q0_bestPlan q0_tried q0_tracks q0_kept q0_isKept q0_keptCame i_houses i_weatherMany i_typed i_rowMany 0 r_read i_length i_top i_at i_wrong i_ruleSize i_isAsked i_askedInches i_askedPath i_askedDay i_askedRoof i_askedBelow i_askedLoose i_slidesMany i_owedNow i_slidInto i_undoMany i_bestLength i_setOff i_letLie i_trackMany i_came a_text a_hold a_weather a_rule) := hD
  refine lv_aload_n hx hb dX12_rule_5 rfl (lv_at hl 0 rfl) ?_
  refine gf_RX12_105 C hP 0 rfl rfl dX12_rule_6 ?_
  refine lv_istore_n (lv' := [(1, .int i_typed), (0, .ref q0)]) hx hb dX12_rule_9 rfl hl (by decide) rfl (fun ls hl => ?_)
  refine lv_aload_n hx hb dX12_rule_10 rfl (lv_at hl 1 rfl) ?_
  refine lv_aload_n hx hb dX12_rule_11 rfl (lv_at hl 1 rfl) ?_
  refine gf_RX12_25 C hP 0 rfl rfl dX12_rule_12 ?_
  refine lv_iload_n hx hb dX12_rule_15 rfl (lv_at hl 0 rfl) ?_
  refine lv_bipush (v := 40) hx hb dX12_rule_16 (by decide) ?_
  obtain ⟨o1, hg2, hf⟩ := bd_some hf
  refine k_VV (As := [.ref q0_text, .int i_typed, .int 40]) C K_RX12_139 (Nat.le_of_ble_eq_true rfl) (Nat.le_of_ble_eq_true rfl) (kX12_begin l E q0 q0_now q0_hold q0_below q0_hay q0_weather q0_text q0_row q0_comes q0_rule q0_owedBy q0_undos q0_aside q0_acts q0_ring q0_bestRing q0_nets q0_worked q0_then q0_plan q0_bestPlan q0_tried q0_tracks q0_kept q0_isKept q0_keptCame q0_text i_houses i_weatherMany i_typed i_rowMany 0 ((rdv r_read q0_text q0_rule)) i_length i_top i_at i_wrong i_ruleSize i_isAsked i_askedInches i_askedPath i_askedDay i_askedRoof i_askedBelow i_askedLoose i_slidesMany i_owedNow i_slidInto i_undoMany i_bestLength i_setOff i_letLie i_trackMany i_came i_typed 40 o1.1 o1.2.1 o1.2.2.1 o1.2.2.2 hg2) [0] rfl rfl rfl (ci := 12) rfl rfl (q0 := 0) rfl hP hD hS hA hl.1 (Nat.le_of_ble_eq_true rfl) rfl dX12_rule_18 (fun H locs hP hD hS => ?_)
  have hP : va_P E.1 classes (WX12_rule E q0 q0_now q0_hold q0_below q0_hay q0_weather q0_text q0_row q0_comes q0_rule q0_owedBy q0_undos q0_aside q0_acts q0_ring q0_bestRing q0_nets q0_worked q0_then q0_plan q0_bestPlan q0_tried q0_tracks q0_kept q0_isKept q0_keptCame i_houses i_weatherMany i_typed i_rowMany 0 1 o1.1 o1.2.1 o1.2.2.1 o1.2.2.2 i_ruleSize i_isAsked i_askedInches i_askedPath i_askedDay i_askedRoof i_askedBelow i_askedLoose i_slidesMany i_owedNow i_slidInto i_undoMany i_bestLength i_setOff i_letLie i_trackMany i_came a_text a_hold a_weather a_rule) H := hP
  have hD : va_D A (WX12_rule E q0 q0_now q0_hold q0_below q0_hay q0_weather q0_text q0_row q0_comes q0_rule q0_owedBy q0_undos q0_aside q0_acts q0_ring q0_bestRing q0_nets q0_worked q0_then q0_plan q0_bestPlan q0_tried q0_tracks q0_kept q0_isKept q0_keptCame i_houses i_weatherMany i_typed i_rowMany 0 1 o1.1 o1.2.1 o1.2.2.1 o1.2.2.2 i_ruleSize i_isAsked i_askedInches i_askedPath i_askedDay i_askedRoof i_askedBelow i_askedLoose i_slidesMany i_owedNow i_slidInto i_undoMany i_bestLength i_setOff i_letLie i_trackMany i_came a_text a_hold a_weather a_rule) := hD
  refine lv_aload_n hx hb dX12_rule_21 rfl (lv_at hl 1 rfl) ?_
  refine lv_iconst (v := 0) hx hb dX12_rule_22 (by decide) ?_
  refine pf_RX12_105 C hP hD hS 0 rfl (Nat.le_of_ble_eq_true rfl) dX12_rule_23 (fun H locs hP hD hS => ?_)
  have hP : va_P E.1 classes (WX12_rule E q0 q0_now q0_hold q0_below q0_hay q0_weather q0_text q0_row q0_comes q0_rule q0_owedBy q0_undos q0_aside q0_acts q0_ring q0_bestRing q0_nets q0_worked q0_then q0_plan q0_bestPlan q0_tried q0_tracks q0_kept q0_isKept q0_keptCame i_houses i_weatherMany 0 i_rowMany 0 1 o1.1 o1.2.1 o1.2.2.1 o1.2.2.2 i_ruleSize i_isAsked i_askedInches i_askedPath i_askedDay i_askedRoof i_askedBelow i_askedLoose i_slidesMany i_owedNow i_slidInto i_undoMany i_bestLength i_setOff i_letLie i_trackMany i_came a_text a_hold a_weather a_rule) H := hP
  have hD : va_D A (WX12_rule E q0 q0_now q0_hold q0_below q0_hay q0_weather q0_text q0_row q0_comes q0_rule q0_owedBy q0_undos q0_aside q0_acts q0_ring q0_bestRing q0_nets q0_worked q0_then q0_plan q0_bestPlan q0_tried q0_tracks q0_kept q0_isKept q0_keptCame i_houses i_weatherMany 0 i_rowMany 0 1 o1.1 o1.2.1 o1.2.2.1 o1.2.2.2 i_ruleSize i_isAsked i_askedInches i_askedPath i_askedDay i_askedRoof i_askedBelow i_askedLoose i_slidesMany i_owedNow i_slidInto i_undoMany i_bestLength i_setOff i_letLie i_trackMany i_came a_text a_hold a_weather a_rule) := hD
  refine lv_aload_n hx hb dX12_rule_26 rfl (lv_at hl 1 rfl) ?_
  refine lv_iconst (v := 0) hx hb dX12_rule_27 (by decide) ?_
  refine pf_RX12_183 C hP hD hS 0 rfl rfl rfl (Nat.le_of_ble_eq_true rfl) dX12_rule_28 (fun H locs hP hD hS => ?_)
  have hP : va_P E.1 classes (WX12_rule E q0 q0_now q0_hold q0_below q0_hay q0_weather q0_text q0_row q0_comes q0_rule q0_owedBy q0_undos q0_aside q0_acts q0_ring q0_bestRing q0_nets q0_worked q0_then q0_plan q0_bestPlan q0_tried q0_tracks q0_kept q0_isKept q0_keptCame i_houses i_weatherMany 0 i_rowMany 0 1 o1.1 o1.2.1 o1.2.2.1 o1.2.2.2 i_ruleSize 0 i_askedInches i_askedPath i_askedDay i_askedRoof i_askedBelow i_askedLoose i_slidesMany i_owedNow i_slidInto i_undoMany i_bestLength i_setOff i_letLie i_trackMany i_came a_text a_hold a_weather a_rule) H := hP
  have hD : va_D A (WX12_rule E q0 q0_now q0_hold q0_below q0_hay q0_weather q0_text q0_row q0_comes q0_rule q0_owedBy q0_undos q0_aside q0_acts q0_ring q0_bestRing q0_nets q0_worked q0_then q0_plan q0_bestPlan q0_tried q0_tracks q0_kept q0_isKept q0_keptCame i_houses i_weatherMany 0 i_rowMany 0 1 o1.1 o1.2.1 o1.2.2.1 o1.2.2.2 i_ruleSize 0 i_askedInches i_askedPath i_askedDay i_askedRoof i_askedBelow i_askedLoose i_slidesMany i_owedNow i_slidInto i_undoMany i_bestLength i_setOff i_letLie i_trackMany i_came a_text a_hold a_weather a_rule) := hD
  refine lv_iload_n hx hb dX12_rule_31 rfl (lv_at hl 0 rfl) ?_
  refine lv_if_le (tgt := 71) hx hb dX12_rule_32 (by decide) (fun c3 => ?_) (fun c3 => ?_)
  · rw [if_pos c3] at hf
    refine lv_iconst (v := 0) hx hb dX12_rule_71 (by decide) ?_
    refine lv_istore_n (lv' := [(2, .int 0), (1, .int i_typed), (0, .ref q0)]) hx hb dX12_rule_72 rfl hl (by decide) rfl (fun ls hl => ?_)
    obtain ⟨o7, hg8, hf⟩ := bd_some hf
    refine L73 i_typed 0 0 o1.1 o1.2.1 o1.2.2.1 o1.2.2.2 i_ruleSize 0 FU 0 a_rule o7 hg8 ?_ _ _ _ (lv_sub hl [2, 1, 0] rfl) hP hD hS
    intro H locs ls hl hP hD hS
    refine lv_aload_n hx hb dX12_rule_96 rfl (lv_at hl 0 rfl) ?_
    refine lv_iload_n hx hb dX12_rule_97 rfl (lv_at hl 1 rfl) ?_
    refine pf_RX12_211 C hP hD hS 0 rfl (Nat.le_of_ble_eq_true rfl) dX12_rule_98 (fun H locs hP hD hS => ?_)
    have hP : va_P E.1 classes (WX12_rule E q0 q0_now q0_hold q0_below q0_hay q0_weather q0_text q0_row q0_comes q0_rule q0_owedBy q0_undos q0_aside q0_acts q0_ring q0_bestRing q0_nets q0_worked q0_then q0_plan q0_bestPlan q0_tried q0_tracks q0_kept q0_isKept q0_keptCame i_houses i_weatherMany 0 i_rowMany 0 1 o1.1 o1.2.1 o1.2.2.1 o1.2.2.2 i_typed 0 i_askedInches i_askedPath i_askedDay i_askedRoof i_askedBelow i_askedLoose i_slidesMany i_owedNow i_slidInto i_undoMany i_bestLength i_setOff i_letLie i_trackMany i_came a_text a_hold a_weather o7) H := hP
    have hD : va_D A (WX12_rule E q0 q0_now q0_hold q0_below q0_hay q0_weather q0_text q0_row q0_comes q0_rule q0_owedBy q0_undos q0_aside q0_acts q0_ring q0_bestRing q0_nets q0_worked q0_then q0_plan q0_bestPlan q0_tried q0_tracks q0_kept q0_isKept q0_keptCame i_houses i_weatherMany 0 i_rowMany 0 1 o1.1 o1.2.1 o1.2.2.1 o1.2.2.2 i_typed 0 i_askedInches i_askedPath i_askedDay i_askedRoof i_askedBelow i_askedLoose i_slidesMany i_owedNow i_slidInto i_undoMany i_bestLength i_setOff i_letLie i_trackMany i_came a_text a_hold a_weather o7) := hD
    refine lv_iconst (v := 0) hx hb dX12_rule_101 (by decide) ?_
    have hj0 := Option.some.inj hf
    obtain ⟨ha0, hj1⟩ := Prod.mk.inj hj0
    obtain ⟨ha1, hj2⟩ := Prod.mk.inj hj1
    obtain ⟨ha2, hj3⟩ := Prod.mk.inj hj2
    obtain ⟨ha3, hj4⟩ := Prod.mk.inj hj3
    obtain ⟨ha4, hj5⟩ := Prod.mk.inj hj4
    obtain ⟨ha5, hj6⟩ := Prod.mk.inj hj5
    obtain ⟨ha6, hj7⟩ := Prod.mk.inj hj6
    obtain ⟨ha7, hj8⟩ := Prod.mk.inj hj7
    obtain ⟨ha8, hj9⟩ := Prod.mk.inj hj8
    obtain ⟨ha9, hj10⟩ := Prod.mk.inj hj9
    subst ha0
    subst ha1
    subst ha2
    subst ha3
    subst ha4
    subst ha5
    subst ha6
    subst ha7
    subst ha8
    subst ha9
    subst hj10
    exact hret _ _ _ _ dX12_rule_102 rfl hP hD hS
  · rw [if_neg c3] at hf
    refine lv_aload_n hx hb dX12_rule_35 rfl (lv_at hl 1 rfl) ?_
    refine lv_iconst (v := 0) hx hb dX12_rule_36 (by decide) ?_
    obtain ⟨o9, hg10, hf⟩ := bd_some hf
    refine k_VI (As := [.int 0]) C K_RX12_180 (Nat.le_of_ble_eq_true rfl) (Nat.le_of_ble_eq_true rfl) (kX12_held l E q0 q0_now q0_hold q0_below q0_hay q0_weather q0_text q0_row q0_text q0_comes q0_rule q0_owedBy q0_undos q0_aside q0_acts q0_ring q0_bestRing q0_nets q0_worked q0_then q0_plan q0_bestPlan q0_tried q0_tracks q0_kept q0_isKept q0_keptCame 80 i_houses i_weatherMany 0 i_rowMany 0 o1.1 o1.2.1 o1.2.2.1 o1.2.2.2 i_ruleSize 0 i_askedInches i_askedPath i_askedDay i_askedRoof i_askedBelow i_askedLoose i_slidesMany i_owedNow i_slidInto i_undoMany i_bestLength i_setOff i_letLie i_trackMany i_came a_text a_hold a_weather 0 o9.1 o9.2.1 o9.2.2 hg10) [0, 1, 2, 3] rfl rfl rfl (ci := 12) rfl rfl (q0 := 0) rfl hP hD hS hA hl.1 (Nat.le_of_ble_eq_true rfl) rfl dX12_rule_37 (fun H locs hP hD hS => ?_)
    have hP : va_P E.1 classes (WX12_rule E q0 q0_now q0_hold q0_below q0_hay q0_weather q0_text q0_row q0_comes q0_rule q0_owedBy q0_undos q0_aside q0_acts q0_ring q0_bestRing q0_nets q0_worked q0_then q0_plan q0_bestPlan q0_tried q0_tracks q0_kept q0_isKept q0_keptCame i_houses i_weatherMany 0 i_rowMany 0 1 o1.1 o1.2.1 o9.2.1 o9.2.2 i_ruleSize 0 i_askedInches i_askedPath i_askedDay i_askedRoof i_askedBelow i_askedLoose i_slidesMany i_owedNow i_slidInto i_undoMany i_bestLength i_setOff i_letLie i_trackMany i_came a_text a_hold a_weather a_rule) H := hP
    have hD : va_D A (WX12_rule E q0 q0_now q0_hold q0_below q0_hay q0_weather q0_text q0_row q0_comes q0_rule q0_owedBy q0_undos q0_aside q0_acts q0_ring q0_bestRing q0_nets q0_worked q0_then q0_plan q0_bestPlan q0_tried q0_tracks q0_kept q0_isKept q0_keptCame i_houses i_weatherMany 0 i_rowMany 0 1 o1.1 o1.2.1 o9.2.1 o9.2.2 i_ruleSize 0 i_askedInches i_askedPath i_askedDay i_askedRoof i_askedBelow i_askedLoose i_slidesMany i_owedNow i_slidInto i_undoMany i_bestLength i_setOff i_letLie i_trackMany i_came a_text a_hold a_weather a_rule) := hD
    refine lv_pop hx hb dX12_rule_40 rfl ?_
    refine lv_aload_n hx hb dX12_rule_41 rfl (lv_at hl 1 rfl) ?_
    refine gf_RX12_117 C hP 0 rfl rfl dX12_rule_42 ?_
    refine lv_iload_n hx hb dX12_rule_45 rfl (lv_at hl 0 rfl) ?_
    refine lv_icmp_ge (tgt := 57) hx hb dX12_rule_46 (by decide) (fun c11 => ?_) (fun c11 => ?_)
    · rw [if_pos c11] at hf
      exact J57 i_typed 0 0 o1.1 o1.2.1 o9.2.1 o9.2.2 i_ruleSize 0 a_rule hf _ _ _ (lv_sub hl [1, 0] rfl) hP hD hS
    · rw [if_neg c11] at hf
      refine lv_aload_n hx hb dX12_rule_49 rfl (lv_at hl 1 rfl) ?_
      refine lv_aload_n hx hb dX12_rule_50 rfl (lv_at hl 1 rfl) ?_
      refine gf_RX12_117 C hP 0 rfl rfl dX12_rule_51 ?_
      obtain ⟨o17, hg18, hf⟩ := bd_some hf
      refine k_VV (As := [.int o9.2.1]) C K_RX12_135 (Nat.le_of_ble_eq_true rfl) (Nat.le_of_ble_eq_true rfl) (kX12_fault l E q0 q0_now q0_hold q0_below q0_hay q0_weather q0_text q0_row q0_comes q0_rule q0_owedBy q0_undos q0_aside q0_acts q0_ring q0_bestRing q0_nets q0_worked q0_then q0_plan q0_bestPlan q0_tried q0_tracks q0_kept q0_isKept q0_keptCame i_houses i_weatherMany 0 i_rowMany 0 ((rdv 1 q0_text q0_rule)) o1.1 o1.2.1 o9.2.1 o9.2.2 i_ruleSize 0 i_askedInches i_askedPath i_askedDay i_askedRoof i_askedBelow i_askedLoose i_slidesMany i_owedNow i_slidInto i_undoMany i_bestLength i_setOff i_letLie i_trackMany i_came o9.2.1 o17 hg18) [0] rfl rfl rfl (ci := 12) rfl rfl (q0 := 0) rfl hP hD hS hA hl.1 (Nat.le_of_ble_eq_true rfl) rfl dX12_rule_54 (fun H locs hP hD hS => ?_)
      have hP : va_P E.1 classes (WX12_rule E q0 q0_now q0_hold q0_below q0_hay q0_weather q0_text q0_row q0_comes q0_rule q0_owedBy q0_undos q0_aside q0_acts q0_ring q0_bestRing q0_nets q0_worked q0_then q0_plan q0_bestPlan q0_tried q0_tracks q0_kept q0_isKept q0_keptCame i_houses i_weatherMany 0 i_rowMany 0 1 o1.1 o1.2.1 o9.2.1 o17 i_ruleSize 0 i_askedInches i_askedPath i_askedDay i_askedRoof i_askedBelow i_askedLoose i_slidesMany i_owedNow i_slidInto i_undoMany i_bestLength i_setOff i_letLie i_trackMany i_came a_text a_hold a_weather a_rule) H := hP
      have hD : va_D A (WX12_rule E q0 q0_now q0_hold q0_below q0_hay q0_weather q0_text q0_row q0_comes q0_rule q0_owedBy q0_undos q0_aside q0_acts q0_ring q0_bestRing q0_nets q0_worked q0_then q0_plan q0_bestPlan q0_tried q0_tracks q0_kept q0_isKept q0_keptCame i_houses i_weatherMany 0 i_rowMany 0 1 o1.1 o1.2.1 o9.2.1 o17 i_ruleSize 0 i_askedInches i_askedPath i_askedDay i_askedRoof i_askedBelow i_askedLoose i_slidesMany i_owedNow i_slidInto i_undoMany i_bestLength i_setOff i_letLie i_trackMany i_came a_text a_hold a_weather a_rule) := hD
      exact J57 i_typed 0 0 o1.1 o1.2.1 o9.2.1 o17 i_ruleSize 0 a_rule hf _ _ _ (lv_sub hl [1, 0] rfl) hP hD hS
theorem gf_RX12_211 {p : Program} {l : Launch} {e : Env} {R : Room} {s : State} {m : MethodId} {args : Array Value} {below : List Frame} {meth : Method} {c : Code} {H : Heap} {locs : List Loc} {cells slots : Nat} {Q : State → Prop} {E : ENV} {cc : ByteArray} {n : Nat} {r : Option FieldType} {pc : Nat} {ls : Array Slot} {rest : List Value} {a : Nat} {ws : va_W} {nm ds : String} {fs : List Value} {A : Nat → Prop} {v : Value} (C : Cx E A ⟨RX12, nm, ds⟩ cc n r p s m args meth c) (hP : va_P E.1 classes ws H) (q0 : Nat) (he : ws[q0]? = some (a, .inr (12, fs))) (hv : fs[19]? = some v) (hdg : decode cc pc = .ok (.getfield 211, 3))
    (kk : W p l e R s m args below meth c H locs cells slots Q (F0 m (pc + 3) ls (v :: rest))) : W p l e R s m args below meth c H locs cells slots Q (F0 m pc ls (.ref a :: rest)) :=
  va_get (C := RX12) (T := TX12) (N := 52) (Ts := wl ⟨RX12, nm, ds⟩ cc n r) C.1 C.2.1 C.2.2.2.2.1 (fun w h => List.mem_cons_of_mem _ (inT12 w h)) C.2.2.2.1 C.2.2.2.2.2.1 hP q0 he rfl 19 (by decide) (C.2.2.2.2.1 _ (List.mem_cons_of_mem _ q1345)) (fun _ h9 => h9) hv hdg kk
theorem dX12_ruled_0 : decode cX12_ruled 0 = .ok (.aload_n 0, 1) := by decide +kernel
theorem dX12_ruled_1 : decode cX12_ruled 1 = .ok (.getfield 211, 3) := by decide +kernel
theorem dX12_ruled_4 : decode cX12_ruled 4 = .ok (.ifCond .ne 8, 3) := by decide +kernel
theorem dX12_ruled_7 : decode cX12_ruled 7 = .ok (.aload_n 0, 1) := by decide +kernel
theorem dX12_ruled_8 : decode cX12_ruled 8 = .ok (.getfield 190, 3) := by decide +kernel
theorem dX12_ruled_11 : decode cX12_ruled 11 = .ok (.ireturn, 1) := by decide +kernel
theorem dX12_ruled_12 : decode cX12_ruled 12 = .ok (.aload_n 0, 1) := by decide +kernel
theorem dX12_ruled_13 : decode cX12_ruled 13 = .ok (.iconst 1, 1) := by decide +kernel
theorem dX12_ruled_14 : decode cX12_ruled 14 = .ok (.putfield 183, 3) := by decide +kernel
theorem dX12_ruled_17 : decode cX12_ruled 17 = .ok (.aload_n 0, 1) := by decide +kernel
theorem dX12_ruled_18 : decode cX12_ruled 18 = .ok (.aload_n 0, 1) := by decide +kernel
theorem dX12_ruled_19 : decode cX12_ruled 19 = .ok (.getfield 35, 3) := by decide +kernel
theorem dX12_ruled_22 : decode cX12_ruled 22 = .ok (.aload_n 0, 1) := by decide +kernel
theorem dX12_ruled_23 : decode cX12_ruled 23 = .ok (.getfield 211, 3) := by decide +kernel
theorem dX12_ruled_26 : decode cX12_ruled 26 = .ok (.bipush 40, 2) := by decide +kernel
theorem dX12_ruled_28 : decode cX12_ruled 28 = .ok (.invokevirtual 139, 3) := by decide +kernel
theorem dX12_ruled_31 : decode cX12_ruled 31 = .ok (.aload_n 0, 1) := by decide +kernel
theorem dX12_ruled_32 : decode cX12_ruled 32 = .ok (.iconst 0, 1) := by decide +kernel
theorem dX12_ruled_33 : decode cX12_ruled 33 = .ok (.invokevirtual 180, 3) := by decide +kernel
theorem dX12_ruled_36 : decode cX12_ruled 36 = .ok (.ireturn, 1) := by decide +kernel
def WX12_ruled (E : ENV) (q0 : Nat) (q0_now : Nat) (q0_hold : Nat) (q0_below : Nat) (q0_hay : Nat) (q0_weather : Nat) (q0_text : Nat) (q0_row : Nat) (q0_comes : Nat) (q0_rule : Nat) (q0_owedBy : Nat) (q0_undos : Nat) (q0_aside : Nat) (q0_acts : Nat) (q0_ring : Nat) (q0_bestRing : Nat) (q0_nets : Nat) (q0_worked : Nat) (q0_then : Nat) (q0_plan : Nat) (q0_bestPlan : Nat) (q0_tried : Nat) (q0_tracks : Nat) (q0_kept : Nat) (q0_isKept : Nat) (q0_keptCame : Nat) (i_houses : Int32) (i_weatherMany : Int32) (i_typed : Int32) (i_rowMany : Int32) (i_thrown : Int32) (r_read : Nat) (i_length : Int32) (i_top : Int32) (i_at : Int32) (i_wrong : Int32) (i_ruleSize : Int32) (i_isAsked : Int32) (i_askedInches : Int32) (i_askedPath : Int32) (i_askedDay : Int32) (i_askedRoof : Int32) (i_askedBelow : Int32) (i_askedLoose : Int32) (i_slidesMany : Int32) (i_owedNow : Int32) (i_slidInto : Int32) (i_undoMany : Int32) (i_bestLength : Int32) (i_setOff : Int32) (i_letLie : Int32) (i_trackMany : Int32) (i_came : Int32) (a_rule : Nat → Int32) (a_hold : Nat → Int32) (a_weather : Nat → Int32) : va_W := [(q0, .inr (12, [.ref q0_now, .int i_houses, .ref q0_hold, .ref q0_below, .ref q0_hay, .ref q0_weather, .int i_weatherMany, .ref q0_text, .int i_typed, .ref q0_row, .int i_rowMany, .int i_thrown, rdv r_read q0_text q0_rule, .int i_length, .int i_top, .int i_at, .int i_wrong, .ref q0_comes, .ref q0_rule, .int i_ruleSize, .int i_isAsked, .int i_askedInches, .int i_askedPath, .int i_askedDay, .int i_askedRoof, .int i_askedBelow, .int i_askedLoose, .int i_slidesMany, .int i_owedNow, .ref q0_owedBy, .int i_slidInto, .ref q0_undos, .int i_undoMany, .ref q0_aside, .ref q0_acts, .ref q0_ring, .ref q0_bestRing, .int i_bestLength, .ref q0_nets, .ref q0_worked, .ref q0_then, .ref q0_plan, .ref q0_bestPlan, .ref q0_tried, .int i_setOff, .int i_letLie, .ref q0_tracks, .int i_trackMany, .int i_came, .ref q0_kept, .ref q0_isKept, .ref q0_keptCame])), (q0_rule, .inl (E.2.2.1, 40, .inl a_rule)), (q0_hold, .inl (E.2.1, 7, .inl a_hold)), (q0_weather, .inl (E.2.1, 40, .inl a_weather))]
set_option maxHeartbeats 4000000 in
set_option maxRecDepth 20000 in
theorem kX12_ruled (l : Launch) (E : ENV) (q0 : Nat) (q0_now : Nat) (q0_hold : Nat) (q0_below : Nat) (q0_hay : Nat) (q0_weather : Nat) (q0_text : Nat) (q0_row : Nat) (q0_comes : Nat) (q0_rule : Nat) (q0_owedBy : Nat) (q0_undos : Nat) (q0_aside : Nat) (q0_acts : Nat) (q0_ring : Nat) (q0_bestRing : Nat) (q0_nets : Nat) (q0_worked : Nat) (q0_then : Nat) (q0_plan : Nat) (q0_bestPlan : Nat) (q0_tried : Nat) (q0_tracks : Nat) (q0_kept : Nat) (q0_isKept : Nat) (q0_keptCame : Nat) (i_houses : Int32) (i_weatherMany : Int32) (i_typed : Int32) (i_rowMany : Int32) (i_thrown : Int32) (r_read : Nat) (i_length : Int32) (i_top : Int32) (i_at : Int32) (i_wrong : Int32) (i_ruleSize : Int32) (i_isAsked : Int32) (i_askedInches : Int32) (i_askedPath : Int32) (i_askedDay : Int32) (i_askedRoof : Int32) (i_askedBelow : Int32) (i_askedLoose : Int32) (i_slidesMany : Int32) (i_owedNow : Int32) (i_slidInto : Int32) (i_undoMany : Int32) (i_bestLength : Int32) (i_setOff : Int32) (i_letLie : Int32) (i_trackMany : Int32) (i_came : Int32) (a_rule : Nat → Int32) (a_hold : Nat → Int32) (a_weather : Nat → Int32) (r9 : Int32) (r_read9 : Nat) (i_length9 : Int32) (i_top9 : Int32) (i_at9 : Int32) (i_wrong9 : Int32) (i_isAsked9 : Int32) (hf : fX12_ruled i_weatherMany r_read i_length i_top i_at i_wrong i_ruleSize i_isAsked i_askedInches i_askedPath i_askedDay i_askedRoof i_askedBelow i_askedLoose a_rule a_hold a_weather = some (r9, r_read9, i_length9, i_top9, i_at9, i_wrong9, i_isAsked9)) : CI l E yX12_ruled cX12_ruled 1 (some .int) 84 [.ref q0] (WX12_ruled E q0 q0_now q0_hold q0_below q0_hay q0_weather q0_text q0_row q0_comes q0_rule q0_owedBy q0_undos q0_aside q0_acts q0_ring q0_bestRing q0_nets q0_worked q0_then q0_plan q0_bestPlan q0_tried q0_tracks q0_kept q0_isKept q0_keptCame i_houses i_weatherMany i_typed i_rowMany i_thrown r_read i_length i_top i_at i_wrong i_ruleSize i_isAsked i_askedInches i_askedPath i_askedDay i_askedRoof i_askedBelow i_askedLoose i_slidesMany i_owedNow i_slidInto i_undoMany i_bestLength i_setOff i_letLie i_trackMany i_came a_rule a_hold a_weather) (WX12_ruled E q0 q0_now q0_hold q0_below q0_hay q0_weather q0_text q0_row q0_comes q0_rule q0_owedBy q0_undos q0_aside q0_acts q0_ring q0_bestRing q0_nets q0_worked q0_then q0_plan q0_bestPlan q0_tried q0_tracks q0_kept q0_isKept q0_keptCame i_houses i_weatherMany i_typed i_rowMany i_thrown r_read9 i_length9 i_top9 i_at9 i_wrong9 i_ruleSize i_isAsked9 i_askedInches i_askedPath i_askedDay i_askedRoof i_askedBelow i_askedLoose i_slidesMany i_owedNow i_slidInto i_undoMany i_bestLength i_setOff i_letLie i_trackMany i_came a_rule a_hold a_weather) r9 := by
  refine begI (by decide +kernel) (Nat.le_of_ble_eq_true rfl) ?_
  intro p e s m args below meth c A Q C hA hret
  have hx := C.1
  have hb := C.2.1
  intro H locs ls hl hP hD hS
  have hl : lv_has ls 1 [(0, .ref q0)] := hl
  unfold fX12_ruled at hf
  refine lv_aload_n hx hb dX12_ruled_0 rfl (lv_at hl 0 rfl) ?_
  refine gf_RX12_211 C hP 0 rfl rfl dX12_ruled_1 ?_
  refine lv_if_ne (tgt := 12) hx hb dX12_ruled_4 (by decide) (fun c1 => ?_) (fun c1 => ?_)
  · rw [if_neg c1] at hf
    refine lv_aload_n hx hb dX12_ruled_12 rfl (lv_at hl 0 rfl) ?_
    refine lv_iconst (v := 1) hx hb dX12_ruled_13 (by decide) ?_
    refine pf_RX12_183 C hP hD hS 0 rfl rfl rfl (Nat.le_of_ble_eq_true rfl) dX12_ruled_14 (fun H locs hP hD hS => ?_)
    have hP : va_P E.1 classes (WX12_ruled E q0 q0_now q0_hold q0_below q0_hay q0_weather q0_text q0_row q0_comes q0_rule q0_owedBy q0_undos q0_aside q0_acts q0_ring q0_bestRing q0_nets q0_worked q0_then q0_plan q0_bestPlan q0_tried q0_tracks q0_kept q0_isKept q0_keptCame i_houses i_weatherMany i_typed i_rowMany i_thrown r_read i_length i_top i_at i_wrong i_ruleSize 1 i_askedInches i_askedPath i_askedDay i_askedRoof i_askedBelow i_askedLoose i_slidesMany i_owedNow i_slidInto i_undoMany i_bestLength i_setOff i_letLie i_trackMany i_came a_rule a_hold a_weather) H := hP
    have hD : va_D A (WX12_ruled E q0 q0_now q0_hold q0_below q0_hay q0_weather q0_text q0_row q0_comes q0_rule q0_owedBy q0_undos q0_aside q0_acts q0_ring q0_bestRing q0_nets q0_worked q0_then q0_plan q0_bestPlan q0_tried q0_tracks q0_kept q0_isKept q0_keptCame i_houses i_weatherMany i_typed i_rowMany i_thrown r_read i_length i_top i_at i_wrong i_ruleSize 1 i_askedInches i_askedPath i_askedDay i_askedRoof i_askedBelow i_askedLoose i_slidesMany i_owedNow i_slidInto i_undoMany i_bestLength i_setOff i_letLie i_trackMany i_came a_rule a_hold a_weather) := hD
    refine lv_aload_n hx hb dX12_ruled_17 rfl (lv_at hl 0 rfl) ?_
    refine lv_aload_n hx hb dX12_ruled_18 rfl (lv_at hl 0 rfl) ?_
    refine gf_RX12_35 C hP 0 rfl rfl dX12_ruled_19 ?_
    refine lv_aload_n hx hb dX12_ruled_22 rfl (lv_at hl 0 rfl) ?_
    refine gf_RX12_211 C hP 0 rfl rfl dX12_ruled_23 ?_
    refine lv_bipush (v := 40) hx hb dX12_ruled_26 (by decide) ?_
    obtain ⟨o2, hg3, hf⟩ := bd_some hf
    refine k_VV (As := [.ref q0_rule, .int i_ruleSize, .int 40]) C K_RX12_139 (Nat.le_of_ble_eq_true rfl) (Nat.le_of_ble_eq_true rfl) (kX12_begin l E q0 q0_now q0_hold q0_below q0_hay q0_weather q0_text q0_row q0_comes q0_rule q0_owedBy q0_undos q0_aside q0_acts q0_ring q0_bestRing q0_nets q0_worked q0_then q0_plan q0_bestPlan q0_tried q0_tracks q0_kept q0_isKept q0_keptCame q0_rule i_houses i_weatherMany i_typed i_rowMany i_thrown ((rdv r_read q0_text q0_rule)) i_length i_top i_at i_wrong i_ruleSize 1 i_askedInches i_askedPath i_askedDay i_askedRoof i_askedBelow i_askedLoose i_slidesMany i_owedNow i_slidInto i_undoMany i_bestLength i_setOff i_letLie i_trackMany i_came i_ruleSize 40 o2.1 o2.2.1 o2.2.2.1 o2.2.2.2 hg3) [0] rfl rfl rfl (ci := 12) rfl rfl (q0 := 0) rfl hP hD hS hA hl.1 (Nat.le_of_ble_eq_true rfl) rfl dX12_ruled_28 (fun H locs hP hD hS => ?_)
    have hP : va_P E.1 classes (WX12_ruled E q0 q0_now q0_hold q0_below q0_hay q0_weather q0_text q0_row q0_comes q0_rule q0_owedBy q0_undos q0_aside q0_acts q0_ring q0_bestRing q0_nets q0_worked q0_then q0_plan q0_bestPlan q0_tried q0_tracks q0_kept q0_isKept q0_keptCame i_houses i_weatherMany i_typed i_rowMany i_thrown 2 o2.1 o2.2.1 o2.2.2.1 o2.2.2.2 i_ruleSize 1 i_askedInches i_askedPath i_askedDay i_askedRoof i_askedBelow i_askedLoose i_slidesMany i_owedNow i_slidInto i_undoMany i_bestLength i_setOff i_letLie i_trackMany i_came a_rule a_hold a_weather) H := hP
    have hD : va_D A (WX12_ruled E q0 q0_now q0_hold q0_below q0_hay q0_weather q0_text q0_row q0_comes q0_rule q0_owedBy q0_undos q0_aside q0_acts q0_ring q0_bestRing q0_nets q0_worked q0_then q0_plan q0_bestPlan q0_tried q0_tracks q0_kept q0_isKept q0_keptCame i_houses i_weatherMany i_typed i_rowMany i_thrown 2 o2.1 o2.2.1 o2.2.2.1 o2.2.2.2 i_ruleSize 1 i_askedInches i_askedPath i_askedDay i_askedRoof i_askedBelow i_askedLoose i_slidesMany i_owedNow i_slidInto i_undoMany i_bestLength i_setOff i_letLie i_trackMany i_came a_rule a_hold a_weather) := hD
    refine lv_aload_n hx hb dX12_ruled_31 rfl (lv_at hl 0 rfl) ?_
    refine lv_iconst (v := 0) hx hb dX12_ruled_32 (by decide) ?_
    obtain ⟨o4, hg5, hf⟩ := bd_some hf
    refine k_VI (As := [.int 0]) C K_RX12_180 (Nat.le_of_ble_eq_true rfl) (Nat.le_of_ble_eq_true rfl) (kX12_held l E q0 q0_now q0_hold q0_below q0_hay q0_weather q0_text q0_row q0_rule q0_comes q0_rule q0_owedBy q0_undos q0_aside q0_acts q0_ring q0_bestRing q0_nets q0_worked q0_then q0_plan q0_bestPlan q0_tried q0_tracks q0_kept q0_isKept q0_keptCame 40 i_houses i_weatherMany i_typed i_rowMany i_thrown o2.1 o2.2.1 o2.2.2.1 o2.2.2.2 i_ruleSize 1 i_askedInches i_askedPath i_askedDay i_askedRoof i_askedBelow i_askedLoose i_slidesMany i_owedNow i_slidInto i_undoMany i_bestLength i_setOff i_letLie i_trackMany i_came a_rule a_hold a_weather 0 o4.1 o4.2.1 o4.2.2 hg5) [0, 1, 2, 3] rfl rfl rfl (ci := 12) rfl rfl (q0 := 0) rfl hP hD hS hA hl.1 (Nat.le_of_ble_eq_true rfl) rfl dX12_ruled_33 (fun H locs hP hD hS => ?_)
    have hP : va_P E.1 classes (WX12_ruled E q0 q0_now q0_hold q0_below q0_hay q0_weather q0_text q0_row q0_comes q0_rule q0_owedBy q0_undos q0_aside q0_acts q0_ring q0_bestRing q0_nets q0_worked q0_then q0_plan q0_bestPlan q0_tried q0_tracks q0_kept q0_isKept q0_keptCame i_houses i_weatherMany i_typed i_rowMany i_thrown 2 o2.1 o2.2.1 o4.2.1 o4.2.2 i_ruleSize 1 i_askedInches i_askedPath i_askedDay i_askedRoof i_askedBelow i_askedLoose i_slidesMany i_owedNow i_slidInto i_undoMany i_bestLength i_setOff i_letLie i_trackMany i_came a_rule a_hold a_weather) H := hP
    have hD : va_D A (WX12_ruled E q0 q0_now q0_hold q0_below q0_hay q0_weather q0_text q0_row q0_comes q0_rule q0_owedBy q0_undos q0_aside q0_acts q0_ring q0_bestRing q0_nets q0_worked q0_then q0_plan q0_bestPlan q0_tried q0_tracks q0_kept q0_isKept q0_keptCame i_houses i_weatherMany i_typed i_rowMany i_thrown 2 o2.1 o2.2.1 o4.2.1 o4.2.2 i_ruleSize 1 i_askedInches i_askedPath i_askedDay i_askedRoof i_askedBelow i_askedLoose i_slidesMany i_owedNow i_slidInto i_undoMany i_bestLength i_setOff i_letLie i_trackMany i_came a_rule a_hold a_weather) := hD
    have hj0 := Option.some.inj hf
    obtain ⟨ha0, hj1⟩ := Prod.mk.inj hj0
    obtain ⟨ha1, hj2⟩ := Prod.mk.inj hj1
    obtain ⟨ha2, hj3⟩ := Prod.mk.inj hj2
    obtain ⟨ha3, hj4⟩ := Prod.mk.inj hj3
    obtain ⟨ha4, hj5⟩ := Prod.mk.inj hj4
    obtain ⟨ha5, hj6⟩ := Prod.mk.inj hj5
    subst ha0
    subst ha1
    subst ha2
    subst ha3
    subst ha4
    subst ha5
    subst hj6
    exact hret _ _ _ _ dX12_ruled_36 rfl hP hD hS
  · rw [if_pos c1] at hf
    refine lv_aload_n hx hb dX12_ruled_7 rfl (lv_at hl 0 rfl) ?_
    refine gf_RX12_190 C hP 0 rfl rfl dX12_ruled_8 ?_
    have hj0 := Option.some.inj hf
    obtain ⟨ha0, hj1⟩ := Prod.mk.inj hj0
    obtain ⟨ha1, hj2⟩ := Prod.mk.inj hj1
    obtain ⟨ha2, hj3⟩ := Prod.mk.inj hj2
    obtain ⟨ha3, hj4⟩ := Prod.mk.inj hj3
    obtain ⟨ha4, hj5⟩ := Prod.mk.inj hj4
    obtain ⟨ha5, hj6⟩ := Prod.mk.inj hj5
    subst ha0
    subst ha1
    subst ha2
    subst ha3
    subst ha4
    subst ha5
    subst hj6
    exact hret _ _ _ _ dX12_ruled_11 rfl hP hD hS
