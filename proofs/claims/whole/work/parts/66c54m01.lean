theorem inT11 : ∀ w ∈ u_ws RX11 TX11 18, w ∈ Tg := by decide +kernel
theorem q406 : Cond.fieldLink RX11 10 "SnowForSummer" "text" "LSnowForSummer$Text;" ∈ Tg := Tg_mem 406 (by decide +kernel) (by decide +kernel)
theorem gf_RX11_10 {p : Program} {l : Launch} {e : Env} {R : Room} {s : State} {m : MethodId} {args : Array Value} {below : List Frame} {meth : Method} {c : Code} {H : Heap} {locs : List Loc} {cells slots : Nat} {Q : State → Prop} {E : ENV} {cc : ByteArray} {n : Nat} {r : Option FieldType} {pc : Nat} {ls : Array Slot} {rest : List Value} {a : Nat} {ws : va_W} {nm ds : String} {fs : List Value} {A : Nat → Prop} {v : Value} (C : Cx E A ⟨RX11, nm, ds⟩ cc n r p s m args meth c) (hP : va_P E.1 classes ws H) (q0 : Nat) (he : ws[q0]? = some (a, .inr (11, fs))) (hv : fs[0]? = some v) (hdg : decode cc pc = .ok (.getfield 10, 3))
    (kk : W p l e R s m args below meth c H locs cells slots Q (F0 m (pc + 3) ls (v :: rest))) : W p l e R s m args below meth c H locs cells slots Q (F0 m pc ls (.ref a :: rest)) :=
  va_get (C := RX11) (T := TX11) (N := 18) (Ts := wl ⟨RX11, nm, ds⟩ cc n r) C.1 C.2.1 C.2.2.2.2.1 (fun w h => List.mem_cons_of_mem _ (inT11 w h)) C.2.2.2.1 C.2.2.2.2.2.1 hP q0 he rfl 0 (by decide) (C.2.2.2.2.1 _ (List.mem_cons_of_mem _ q406)) (fun _ h9 => h9) hv hdg kk
theorem K_RX11_108 : KV RX11 108 yX6_append cX6_append 3 (some .int) 1 := ⟨Tg_mem 468 (by decide +kernel) (by decide +kernel), Tg_mem 91 (by decide +kernel) (by decide +kernel), Tg_mem 465 (by decide +kernel) (by decide +kernel), Tg_mem 466 (by decide +kernel) (by decide +kernel), Tg_mem 467 (by decide +kernel) (by decide +kernel), by decide +kernel⟩
theorem dX11_sign_0 : decode cX11_sign 0 = .ok (.aload_n 0, 1) := by decide +kernel
theorem dX11_sign_1 : decode cX11_sign 1 = .ok (.getfield 10, 3) := by decide +kernel
theorem dX11_sign_4 : decode cX11_sign 4 = .ok (.iload_n 1, 1) := by decide +kernel
theorem dX11_sign_5 : decode cX11_sign 5 = .ok (.invokevirtual 108, 3) := by decide +kernel
theorem dX11_sign_8 : decode cX11_sign 8 = .ok (.ireturn, 1) := by decide +kernel
def WX11_sign (E : ENV) (q0 : Nat) (q0_text : Nat) (q0_town : Nat) (q0_weather : Nat) (q0_rule : Nat) (q0_acts : Nat) (q0_real : Nat) (q0_trial : Nat) (q0_round : Nat) (q0_nights : Nat) (q0_before : Nat) (q0_history : Nat) (q0_kept : Nat) (q0_keptHouses : Nat) (q0_shortest : Nat) (q0_tracks : Nat) (q0_tally : Nat) (q0_told : Nat) (q0_text_signs : Nat) (i_toldCount : Int32) (i_text_length : Int32) (i_text_place : Int32) (i_text_limit : Int32) (a_text_signs : Nat → Int32) : va_W := [(q0, .inr (11, [.ref q0_text, .ref q0_town, .ref q0_weather, .ref q0_rule, .ref q0_acts, .ref q0_real, .ref q0_trial, .ref q0_round, .ref q0_nights, .ref q0_before, .ref q0_history, .ref q0_kept, .ref q0_keptHouses, .ref q0_shortest, .ref q0_tracks, .ref q0_tally, .ref q0_told, .int i_toldCount])), (q0_text, .inr (6, [.ref q0_text_signs, .int i_text_length, .int i_text_place, .int i_text_limit])), (q0_text_signs, .inl (E.2.1, 80, .inl a_text_signs))]
set_option maxHeartbeats 4000000 in
set_option maxRecDepth 20000 in
theorem kX11_sign (l : Launch) (E : ENV) (q0 : Nat) (q0_text : Nat) (q0_town : Nat) (q0_weather : Nat) (q0_rule : Nat) (q0_acts : Nat) (q0_real : Nat) (q0_trial : Nat) (q0_round : Nat) (q0_nights : Nat) (q0_before : Nat) (q0_history : Nat) (q0_kept : Nat) (q0_keptHouses : Nat) (q0_shortest : Nat) (q0_tracks : Nat) (q0_tally : Nat) (q0_told : Nat) (q0_text_signs : Nat) (i_toldCount : Int32) (i_text_length : Int32) (i_text_place : Int32) (i_text_limit : Int32) (a_text_signs : Nat → Int32) (p1 : Int32) (o9 : Int32 × Int32 × (Nat → Int32)) (hf : fX11_sign i_text_length a_text_signs p1 = some o9) : CI l E yX11_sign cX11_sign 2 (some .int) 1 [.ref q0, .int p1] (WX11_sign E q0 q0_text q0_town q0_weather q0_rule q0_acts q0_real q0_trial q0_round q0_nights q0_before q0_history q0_kept q0_keptHouses q0_shortest q0_tracks q0_tally q0_told q0_text_signs i_toldCount i_text_length i_text_place i_text_limit a_text_signs) (WX11_sign E q0 q0_text q0_town q0_weather q0_rule q0_acts q0_real q0_trial q0_round q0_nights q0_before q0_history q0_kept q0_keptHouses q0_shortest q0_tracks q0_tally q0_told q0_text_signs i_toldCount o9.2.1 i_text_place i_text_limit o9.2.2) o9.1 := by
  refine begI (by decide +kernel) (Nat.le_of_ble_eq_true rfl) ?_
  intro p e s m args below meth c A Q C hA hret
  have hx := C.1
  have hb := C.2.1
  intro H locs ls hl hP hD hS
  have hl : lv_has ls 2 [(0, .ref q0), (1, .int p1)] := hl
  unfold fX11_sign at hf
  refine lv_aload_n hx hb dX11_sign_0 rfl (lv_at hl 0 rfl) ?_
  refine gf_RX11_10 C hP 0 rfl rfl dX11_sign_1 ?_
  refine lv_iload_n hx hb dX11_sign_4 rfl (lv_at hl 1 rfl) ?_
  obtain ⟨o1, hg2, hf⟩ := bd_some hf
  refine k_VI2 (As := [.int p1]) C K_RX11_108 (Nat.le_of_ble_eq_true rfl) (Nat.le_of_ble_eq_true rfl) (kX6_append l E q0_text q0_text_signs i_text_length i_text_place i_text_limit a_text_signs p1 o1.1 o1.2.1 o1.2.2 hg2) [1, 2] rfl rfl rfl (ci := 6) rfl rfl (q0 := 0) rfl hP hD hS hA hl.1 (Nat.le_of_ble_eq_true rfl) rfl dX11_sign_5 (ws2 := (WX11_sign E q0 q0_text q0_town q0_weather q0_rule q0_acts q0_real q0_trial q0_round q0_nights q0_before q0_history q0_kept q0_keptHouses q0_shortest q0_tracks q0_tally q0_told q0_text_signs i_toldCount o1.2.1 i_text_place i_text_limit o1.2.2)) 3 [0] rfl rfl rfl rfl (by decide +kernel) (fun H locs hP hD hS => ?_)
  have hj0 := Option.some.inj hf
  subst hj0
  exact hret _ _ _ _ dX11_sign_8 rfl hP hD hS
theorem K_RX11_112 : KV RX11 112 yX6_cut cX6_cut 2 (some .boolean) 1 := ⟨Tg_mem 476 (by decide +kernel) (by decide +kernel), Tg_mem 91 (by decide +kernel) (by decide +kernel), Tg_mem 473 (by decide +kernel) (by decide +kernel), Tg_mem 474 (by decide +kernel) (by decide +kernel), Tg_mem 475 (by decide +kernel) (by decide +kernel), by decide +kernel⟩
theorem dX11_end_0 : decode cX11_end 0 = .ok (.aload_n 0, 1) := by decide +kernel
theorem dX11_end_1 : decode cX11_end 1 = .ok (.getfield 10, 3) := by decide +kernel
theorem dX11_end_4 : decode cX11_end 4 = .ok (.iload_n 1, 1) := by decide +kernel
theorem dX11_end_5 : decode cX11_end 5 = .ok (.invokevirtual 112, 3) := by decide +kernel
theorem dX11_end_8 : decode cX11_end 8 = .ok (.ireturn, 1) := by decide +kernel
def WX11_end (E : ENV) (q0 : Nat) (q0_text : Nat) (q0_town : Nat) (q0_weather : Nat) (q0_rule : Nat) (q0_acts : Nat) (q0_real : Nat) (q0_trial : Nat) (q0_round : Nat) (q0_nights : Nat) (q0_before : Nat) (q0_history : Nat) (q0_kept : Nat) (q0_keptHouses : Nat) (q0_shortest : Nat) (q0_tracks : Nat) (q0_tally : Nat) (q0_told : Nat) (q0_text_signs : Nat) (i_toldCount : Int32) (i_text_length : Int32) (i_text_place : Int32) (i_text_limit : Int32) : va_W := [(q0, .inr (11, [.ref q0_text, .ref q0_town, .ref q0_weather, .ref q0_rule, .ref q0_acts, .ref q0_real, .ref q0_trial, .ref q0_round, .ref q0_nights, .ref q0_before, .ref q0_history, .ref q0_kept, .ref q0_keptHouses, .ref q0_shortest, .ref q0_tracks, .ref q0_tally, .ref q0_told, .int i_toldCount])), (q0_text, .inr (6, [.ref q0_text_signs, .int i_text_length, .int i_text_place, .int i_text_limit]))]
set_option maxHeartbeats 4000000 in
set_option maxRecDepth 20000 in
theorem kX11_end (l : Launch) (E : ENV) (q0 : Nat) (q0_text : Nat) (q0_town : Nat) (q0_weather : Nat) (q0_rule : Nat) (q0_acts : Nat) (q0_real : Nat) (q0_trial : Nat) (q0_round : Nat) (q0_nights : Nat) (q0_before : Nat) (q0_history : Nat) (q0_kept : Nat) (q0_keptHouses : Nat) (q0_shortest : Nat) (q0_tracks : Nat) (q0_tally : Nat) (q0_told : Nat) (q0_text_signs : Nat) (i_toldCount : Int32) (i_text_length : Int32) (i_text_place : Int32) (i_text_limit : Int32) (p1 : Int32) (o9 : Int32 × Int32) (hf : fX11_end i_text_length p1 = some o9) : CI l E yX11_end cX11_end 2 (some .boolean) 1 [.ref q0, .int p1] (WX11_end E q0 q0_text q0_town q0_weather q0_rule q0_acts q0_real q0_trial q0_round q0_nights q0_before q0_history q0_kept q0_keptHouses q0_shortest q0_tracks q0_tally q0_told q0_text_signs i_toldCount i_text_length i_text_place i_text_limit) (WX11_end E q0 q0_text q0_town q0_weather q0_rule q0_acts q0_real q0_trial q0_round q0_nights q0_before q0_history q0_kept q0_keptHouses q0_shortest q0_tracks q0_tally q0_told q0_text_signs i_toldCount o9.2 i_text_place i_text_limit) o9.1 := by
  refine begI (by decide +kernel) (Nat.le_of_ble_eq_true rfl) ?_
  intro p e s m args below meth c A Q C hA hret
  have hx := C.1
  have hb := C.2.1
  intro H locs ls hl hP hD hS
  have hl : lv_has ls 2 [(0, .ref q0), (1, .int p1)] := hl
  unfold fX11_end at hf
  refine lv_aload_n hx hb dX11_end_0 rfl (lv_at hl 0 rfl) ?_
  refine gf_RX11_10 C hP 0 rfl rfl dX11_end_1 ?_
  refine lv_iload_n hx hb dX11_end_4 rfl (lv_at hl 1 rfl) ?_
  obtain ⟨o1, hg2, hf⟩ := bd_some hf
  refine k_VI2 (As := [.int p1]) C K_RX11_112 (Nat.le_of_ble_eq_true rfl) (Nat.le_of_ble_eq_true rfl) (kX6_cut l E q0_text q0_text_signs i_text_length i_text_place i_text_limit p1 o1.1 o1.2 hg2) [1] rfl rfl rfl (ci := 6) rfl rfl (q0 := 0) rfl hP hD hS hA hl.1 (Nat.le_of_ble_eq_true rfl) rfl dX11_end_5 (ws2 := (WX11_end E q0 q0_text q0_town q0_weather q0_rule q0_acts q0_real q0_trial q0_round q0_nights q0_before q0_history q0_kept q0_keptHouses q0_shortest q0_tracks q0_tally q0_told q0_text_signs i_toldCount o1.2 i_text_place i_text_limit)) 2 [0] rfl rfl rfl rfl (by decide +kernel) (fun H locs hP hD hS => ?_)
  obtain ⟨g3, hf⟩ := gd_some hf
  have hj0 := Option.some.inj hf
  subst hj0
  exact hret _ _ _ _ dX11_end_8 (isb_n g3) hP hD hS
theorem q407 : Cond.fieldLink RX11 19 "SnowForSummer" "town" "LSnowForSummer$Town;" ∈ Tg := Tg_mem 407 (by decide +kernel) (by decide +kernel)
theorem gf_RX11_19 {p : Program} {l : Launch} {e : Env} {R : Room} {s : State} {m : MethodId} {args : Array Value} {below : List Frame} {meth : Method} {c : Code} {H : Heap} {locs : List Loc} {cells slots : Nat} {Q : State → Prop} {E : ENV} {cc : ByteArray} {n : Nat} {r : Option FieldType} {pc : Nat} {ls : Array Slot} {rest : List Value} {a : Nat} {ws : va_W} {nm ds : String} {fs : List Value} {A : Nat → Prop} {v : Value} (C : Cx E A ⟨RX11, nm, ds⟩ cc n r p s m args meth c) (hP : va_P E.1 classes ws H) (q0 : Nat) (he : ws[q0]? = some (a, .inr (11, fs))) (hv : fs[1]? = some v) (hdg : decode cc pc = .ok (.getfield 19, 3))
    (kk : W p l e R s m args below meth c H locs cells slots Q (F0 m (pc + 3) ls (v :: rest))) : W p l e R s m args below meth c H locs cells slots Q (F0 m pc ls (.ref a :: rest)) :=
  va_get (C := RX11) (T := TX11) (N := 18) (Ts := wl ⟨RX11, nm, ds⟩ cc n r) C.1 C.2.1 C.2.2.2.2.1 (fun w h => List.mem_cons_of_mem _ (inT11 w h)) C.2.2.2.1 C.2.2.2.2.2.1 hP q0 he rfl 1 (by decide) (C.2.2.2.2.1 _ (List.mem_cons_of_mem _ q407)) (fun _ h9 => h9) hv hdg kk
theorem K_RX11_116 : KV RX11 116 yX7_read cX7_read 3 (some .int) 1 := ⟨Tg_mem 484 (by decide +kernel) (by decide +kernel), Tg_mem 92 (by decide +kernel) (by decide +kernel), Tg_mem 481 (by decide +kernel) (by decide +kernel), Tg_mem 482 (by decide +kernel) (by decide +kernel), Tg_mem 483 (by decide +kernel) (by decide +kernel), by decide +kernel⟩
theorem K_RX11_120 : KV RX11 120 yX6_empty cX6_empty 1 none 0 := ⟨Tg_mem 536 (by decide +kernel) (by decide +kernel), Tg_mem 91 (by decide +kernel) (by decide +kernel), Tg_mem 533 (by decide +kernel) (by decide +kernel), Tg_mem 534 (by decide +kernel) (by decide +kernel), Tg_mem 535 (by decide +kernel) (by decide +kernel), by decide +kernel⟩
theorem q416 : Cond.fieldLink RX11 76 "SnowForSummer" "history" "LSnowForSummer$History;" ∈ Tg := Tg_mem 416 (by decide +kernel) (by decide +kernel)
theorem gf_RX11_76 {p : Program} {l : Launch} {e : Env} {R : Room} {s : State} {m : MethodId} {args : Array Value} {below : List Frame} {meth : Method} {c : Code} {H : Heap} {locs : List Loc} {cells slots : Nat} {Q : State → Prop} {E : ENV} {cc : ByteArray} {n : Nat} {r : Option FieldType} {pc : Nat} {ls : Array Slot} {rest : List Value} {a : Nat} {ws : va_W} {nm ds : String} {fs : List Value} {A : Nat → Prop} {v : Value} (C : Cx E A ⟨RX11, nm, ds⟩ cc n r p s m args meth c) (hP : va_P E.1 classes ws H) (q0 : Nat) (he : ws[q0]? = some (a, .inr (11, fs))) (hv : fs[10]? = some v) (hdg : decode cc pc = .ok (.getfield 76, 3))
    (kk : W p l e R s m args below meth c H locs cells slots Q (F0 m (pc + 3) ls (v :: rest))) : W p l e R s m args below meth c H locs cells slots Q (F0 m pc ls (.ref a :: rest)) :=
  va_get (C := RX11) (T := TX11) (N := 18) (Ts := wl ⟨RX11, nm, ds⟩ cc n r) C.1 C.2.1 C.2.2.2.2.1 (fun w h => List.mem_cons_of_mem _ (inT11 w h)) C.2.2.2.1 C.2.2.2.2.2.1 hP q0 he rfl 10 (by decide) (C.2.2.2.2.1 _ (List.mem_cons_of_mem _ q416)) (fun _ h9 => h9) hv hdg kk
theorem K_RX11_123 : KV RX11 123 yX2_forget cX2_forget 1 none 0 := ⟨Tg_mem 540 (by decide +kernel) (by decide +kernel), Tg_mem 99 (by decide +kernel) (by decide +kernel), Tg_mem 537 (by decide +kernel) (by decide +kernel), Tg_mem 538 (by decide +kernel) (by decide +kernel), Tg_mem 539 (by decide +kernel) (by decide +kernel), by decide +kernel⟩
theorem dX11_town_0 : decode cX11_town 0 = .ok (.aload_n 0, 1) := by decide +kernel
theorem dX11_town_1 : decode cX11_town 1 = .ok (.getfield 19, 3) := by decide +kernel
theorem dX11_town_4 : decode cX11_town 4 = .ok (.aload_n 0, 1) := by decide +kernel
theorem dX11_town_5 : decode cX11_town 5 = .ok (.getfield 10, 3) := by decide +kernel
theorem dX11_town_8 : decode cX11_town 8 = .ok (.invokevirtual 116, 3) := by decide +kernel
theorem dX11_town_11 : decode cX11_town 11 = .ok (.istore_n 1, 1) := by decide +kernel
theorem dX11_town_12 : decode cX11_town 12 = .ok (.aload_n 0, 1) := by decide +kernel
theorem dX11_town_13 : decode cX11_town 13 = .ok (.getfield 10, 3) := by decide +kernel
theorem dX11_town_16 : decode cX11_town 16 = .ok (.invokevirtual 120, 3) := by decide +kernel
theorem dX11_town_19 : decode cX11_town 19 = .ok (.iload_n 1, 1) := by decide +kernel
theorem dX11_town_20 : decode cX11_town 20 = .ok (.ifCond .le 10, 3) := by decide +kernel
theorem dX11_town_23 : decode cX11_town 23 = .ok (.aload_n 0, 1) := by decide +kernel
theorem dX11_town_24 : decode cX11_town 24 = .ok (.getfield 76, 3) := by decide +kernel
theorem dX11_town_27 : decode cX11_town 27 = .ok (.invokevirtual 123, 3) := by decide +kernel
theorem dX11_town_30 : decode cX11_town 30 = .ok (.iload_n 1, 1) := by decide +kernel
theorem dX11_town_31 : decode cX11_town 31 = .ok (.ireturn, 1) := by decide +kernel
def WX11_town (E : ENV) (q0 : Nat) (q0_text : Nat) (q0_town : Nat) (q0_weather : Nat) (q0_rule : Nat) (q0_acts : Nat) (q0_real : Nat) (q0_trial : Nat) (q0_round : Nat) (q0_nights : Nat) (q0_before : Nat) (q0_history : Nat) (q0_kept : Nat) (q0_keptHouses : Nat) (q0_shortest : Nat) (q0_tracks : Nat) (q0_tally : Nat) (q0_told : Nat) (q0_town_hold : Nat) (q0_town_below : Nat) (q0_town_hay : Nat) (q0_text_signs : Nat) (q0_history_states : Nat) (i_toldCount : Int32) (i_town_houses : Int32) (i_text_length : Int32) (i_text_place : Int32) (i_text_limit : Int32) (a_town_hold : Nat → Int32) (a_town_below : Nat → Int32) (a_town_hay : Nat → Int32) (a_text_signs : Nat → Int32) (i_history_size : Int32) (i_history_next : Int32) : va_W := [(q0, .inr (11, [.ref q0_text, .ref q0_town, .ref q0_weather, .ref q0_rule, .ref q0_acts, .ref q0_real, .ref q0_trial, .ref q0_round, .ref q0_nights, .ref q0_before, .ref q0_history, .ref q0_kept, .ref q0_keptHouses, .ref q0_shortest, .ref q0_tracks, .ref q0_tally, .ref q0_told, .int i_toldCount])), (q0_town, .inr (7, [.ref q0_town_hold, .ref q0_town_below, .ref q0_town_hay, .int i_town_houses])), (q0_text, .inr (6, [.ref q0_text_signs, .int i_text_length, .int i_text_place, .int i_text_limit])), (q0_town_hold, .inl (E.2.1, 7, .inl a_town_hold)), (q0_town_below, .inl (E.2.1, 14, .inl a_town_below)), (q0_town_hay, .inl (E.2.1, 7, .inl a_town_hay)), (q0_text_signs, .inl (E.2.1, 80, .inl a_text_signs)), (q0_history, .inr (2, [.ref q0_history_states, .int i_history_size, .int i_history_next]))]
set_option maxHeartbeats 4000000 in
set_option maxRecDepth 20000 in
theorem kX11_town (l : Launch) (E : ENV) (q0 : Nat) (q0_text : Nat) (q0_town : Nat) (q0_weather : Nat) (q0_rule : Nat) (q0_acts : Nat) (q0_real : Nat) (q0_trial : Nat) (q0_round : Nat) (q0_nights : Nat) (q0_before : Nat) (q0_history : Nat) (q0_kept : Nat) (q0_keptHouses : Nat) (q0_shortest : Nat) (q0_tracks : Nat) (q0_tally : Nat) (q0_told : Nat) (q0_town_hold : Nat) (q0_town_below : Nat) (q0_town_hay : Nat) (q0_text_signs : Nat) (q0_history_states : Nat) (i_toldCount : Int32) (i_town_houses : Int32) (i_text_length : Int32) (i_text_place : Int32) (i_text_limit : Int32) (a_town_hold : Nat → Int32) (a_town_below : Nat → Int32) (a_town_hay : Nat → Int32) (a_text_signs : Nat → Int32) (i_history_size : Int32) (i_history_next : Int32) (o9 : Int32 × Int32 × Int32 × Int32 × Int32 × (Nat → Int32) × (Nat → Int32) × (Nat → Int32) × Int32) (hf : fX11_town i_town_houses i_text_length i_text_place i_text_limit a_town_hold a_town_below a_town_hay a_text_signs i_history_size = some o9) : CI l E yX11_town cX11_town 2 (some .int) 6 [.ref q0] (WX11_town E q0 q0_text q0_town q0_weather q0_rule q0_acts q0_real q0_trial q0_round q0_nights q0_before q0_history q0_kept q0_keptHouses q0_shortest q0_tracks q0_tally q0_told q0_town_hold q0_town_below q0_town_hay q0_text_signs q0_history_states i_toldCount i_town_houses i_text_length i_text_place i_text_limit a_town_hold a_town_below a_town_hay a_text_signs i_history_size i_history_next) (WX11_town E q0 q0_text q0_town q0_weather q0_rule q0_acts q0_real q0_trial q0_round q0_nights q0_before q0_history q0_kept q0_keptHouses q0_shortest q0_tracks q0_tally q0_told q0_town_hold q0_town_below q0_town_hay q0_text_signs q0_history_states i_toldCount o9.2.1 o9.2.2.1 o9.2.2.2.1 o9.2.2.2.2.1 o9.2.2.2.2.2.1 o9.2.2.2.2.2.2.1 o9.2.2.2.2.2.2.2.1 a_text_signs o9.2.2.2.2.2.2.2.2 i_history_next) o9.1 := by
  refine begI (by decide +kernel) (Nat.le_of_ble_eq_true rfl) ?_
  intro p e s m args below meth c A Q C hA hret
  have hx := C.1
  have hb := C.2.1
  intro H locs ls hl hP hD hS
  have hl : lv_has ls 2 [(0, .ref q0)] := hl
  unfold fX11_town at hf
  refine lv_aload_n hx hb dX11_town_0 rfl (lv_at hl 0 rfl) ?_
  refine gf_RX11_19 C hP 0 rfl rfl dX11_town_1 ?_
  refine lv_aload_n hx hb dX11_town_4 rfl (lv_at hl 0 rfl) ?_
  refine gf_RX11_10 C hP 0 rfl rfl dX11_town_5 ?_
  obtain ⟨o1, hg2, hf⟩ := bd_some hf
  refine k_VI2 (As := [.ref q0_text]) C K_RX11_116 (Nat.le_of_ble_eq_true rfl) (Nat.le_of_ble_eq_true rfl) (kX7_read l E q0_town q0_town_hold q0_town_below q0_town_hay q0_text q0_text_signs i_town_houses a_town_hold a_town_below a_town_hay i_text_length i_text_place i_text_limit a_text_signs o1.1 o1.2.1 o1.2.2.1 o1.2.2.2.1 o1.2.2.2.2.1 o1.2.2.2.2.2.1 o1.2.2.2.2.2.2 hg2) [1, 3, 4, 5, 2, 6] rfl rfl rfl (ci := 7) rfl rfl (q0 := 0) rfl hP hD hS hA hl.1 (Nat.le_of_ble_eq_true rfl) rfl dX11_town_8 (ws2 := (WX11_town E q0 q0_text q0_town q0_weather q0_rule q0_acts q0_real q0_trial q0_round q0_nights q0_before q0_history q0_kept q0_keptHouses q0_shortest q0_tracks q0_tally q0_told q0_town_hold q0_town_below q0_town_hay q0_text_signs q0_history_states i_toldCount o1.2.1 i_text_length o1.2.2.2.2.2.1 o1.2.2.2.2.2.2 o1.2.2.1 o1.2.2.2.1 o1.2.2.2.2.1 a_text_signs i_history_size i_history_next)) 8 [0, 7] rfl rfl rfl rfl (by decide +kernel) (fun H locs hP hD hS => ?_)
  refine lv_istore_n (lv' := [(1, .int o1.1), (0, .ref q0)]) hx hb dX11_town_11 rfl hl (by decide) rfl (fun ls hl => ?_)
  refine lv_aload_n hx hb dX11_town_12 rfl (lv_at hl 1 rfl) ?_
  refine gf_RX11_10 C hP 0 rfl rfl dX11_town_13 ?_
  obtain ⟨o3, hg4, hf⟩ := bd_some hf
  refine k_VV2 (As := []) C K_RX11_120 (Nat.le_of_ble_eq_true rfl) (Nat.le_of_ble_eq_true rfl) (kX6_empty l E q0_text q0_text_signs i_text_length o1.2.2.2.2.2.1 o1.2.2.2.2.2.2 o3 hg4) [2] rfl rfl rfl (ci := 6) rfl rfl (q0 := 0) rfl hP hD hS hA hl.1 (Nat.le_of_ble_eq_true rfl) rfl dX11_town_16 (ws2 := (WX11_town E q0 q0_text q0_town q0_weather q0_rule q0_acts q0_real q0_trial q0_round q0_nights q0_before q0_history q0_kept q0_keptHouses q0_shortest q0_tracks q0_tally q0_told q0_town_hold q0_town_below q0_town_hay q0_text_signs q0_history_states i_toldCount o1.2.1 o3 o1.2.2.2.2.2.1 o1.2.2.2.2.2.2 o1.2.2.1 o1.2.2.2.1 o1.2.2.2.2.1 a_text_signs i_history_size i_history_next)) 8 [0, 1, 3, 4, 5, 6, 7] rfl rfl rfl rfl (by decide +kernel) (fun H locs hP hD hS => ?_)
  refine lv_iload_n hx hb dX11_town_19 rfl (lv_at hl 0 rfl) ?_
  refine lv_if_le (tgt := 30) hx hb dX11_town_20 (by decide) (fun c5 => ?_) (fun c5 => ?_)
  · rw [if_pos c5] at hf
    refine lv_iload_n hx hb dX11_town_30 rfl (lv_at hl 0 rfl) ?_
    have hj0 := Option.some.inj hf
    subst hj0
    exact hret _ _ _ _ dX11_town_31 rfl hP hD hS
  · rw [if_neg c5] at hf
    refine lv_aload_n hx hb dX11_town_23 rfl (lv_at hl 1 rfl) ?_
    refine gf_RX11_76 C hP 0 rfl rfl dX11_town_24 ?_
    obtain ⟨o6, hg7, hf⟩ := bd_some hf
    refine k_VV2 (As := []) C K_RX11_123 (Nat.le_of_ble_eq_true rfl) (Nat.le_of_ble_eq_true rfl) (kX2_forget l E q0_history q0_history_states i_history_size i_history_next o6 hg7) [7] rfl rfl rfl (ci := 2) rfl rfl (q0 := 0) rfl hP hD hS hA hl.1 (Nat.le_of_ble_eq_true rfl) rfl dX11_town_27 (ws2 := (WX11_town E q0 q0_text q0_town q0_weather q0_rule q0_acts q0_real q0_trial q0_round q0_nights q0_before q0_history q0_kept q0_keptHouses q0_shortest q0_tracks q0_tally q0_told q0_town_hold q0_town_below q0_town_hay q0_text_signs q0_history_states i_toldCount o1.2.1 o3 o1.2.2.2.2.2.1 o1.2.2.2.2.2.2 o1.2.2.1 o1.2.2.2.1 o1.2.2.2.2.1 a_text_signs o6 i_history_next)) 8 [0, 1, 2, 3, 4, 5, 6] rfl rfl rfl rfl (by decide +kernel) (fun H locs hP hD hS => ?_)
    refine lv_iload_n hx hb dX11_town_30 rfl (lv_at hl 0 rfl) ?_
    have hj0 := Option.some.inj hf
    subst hj0
    exact hret _ _ _ _ dX11_town_31 rfl hP hD hS
theorem q408 : Cond.fieldLink RX11 26 "SnowForSummer" "weather" "LSnowForSummer$Weather;" ∈ Tg := Tg_mem 408 (by decide +kernel) (by decide +kernel)
theorem gf_RX11_26 {p : Program} {l : Launch} {e : Env} {R : Room} {s : State} {m : MethodId} {args : Array Value} {below : List Frame} {meth : Method} {c : Code} {H : Heap} {locs : List Loc} {cells slots : Nat} {Q : State → Prop} {E : ENV} {cc : ByteArray} {n : Nat} {r : Option FieldType} {pc : Nat} {ls : Array Slot} {rest : List Value} {a : Nat} {ws : va_W} {nm ds : String} {fs : List Value} {A : Nat → Prop} {v : Value} (C : Cx E A ⟨RX11, nm, ds⟩ cc n r p s m args meth c) (hP : va_P E.1 classes ws H) (q0 : Nat) (he : ws[q0]? = some (a, .inr (11, fs))) (hv : fs[2]? = some v) (hdg : decode cc pc = .ok (.getfield 26, 3))
    (kk : W p l e R s m args below meth c H locs cells slots Q (F0 m (pc + 3) ls (v :: rest))) : W p l e R s m args below meth c H locs cells slots Q (F0 m pc ls (.ref a :: rest)) :=
  va_get (C := RX11) (T := TX11) (N := 18) (Ts := wl ⟨RX11, nm, ds⟩ cc n r) C.1 C.2.1 C.2.2.2.2.1 (fun w h => List.mem_cons_of_mem _ (inT11 w h)) C.2.2.2.1 C.2.2.2.2.2.1 hP q0 he rfl 2 (by decide) (C.2.2.2.2.1 _ (List.mem_cons_of_mem _ q408)) (fun _ h9 => h9) hv hdg kk
theorem K_RX11_126 : KV RX11 126 yX10_read cX10_read 4 (some .int) 1 := ⟨Tg_mem 548 (by decide +kernel) (by decide +kernel), Tg_mem 93 (by decide +kernel) (by decide +kernel), Tg_mem 545 (by decide +kernel) (by decide +kernel), Tg_mem 546 (by decide +kernel) (by decide +kernel), Tg_mem 547 (by decide +kernel) (by decide +kernel), by decide +kernel⟩
theorem dX11_weather_0 : decode cX11_weather 0 = .ok (.aload_n 0, 1) := by decide +kernel
theorem dX11_weather_1 : decode cX11_weather 1 = .ok (.getfield 26, 3) := by decide +kernel
theorem dX11_weather_4 : decode cX11_weather 4 = .ok (.aload_n 0, 1) := by decide +kernel
theorem dX11_weather_5 : decode cX11_weather 5 = .ok (.getfield 10, 3) := by decide +kernel
theorem dX11_weather_8 : decode cX11_weather 8 = .ok (.invokevirtual 126, 3) := by decide +kernel
theorem dX11_weather_11 : decode cX11_weather 11 = .ok (.istore_n 1, 1) := by decide +kernel
theorem dX11_weather_12 : decode cX11_weather 12 = .ok (.aload_n 0, 1) := by decide +kernel
theorem dX11_weather_13 : decode cX11_weather 13 = .ok (.getfield 10, 3) := by decide +kernel
theorem dX11_weather_16 : decode cX11_weather 16 = .ok (.invokevirtual 120, 3) := by decide +kernel
theorem dX11_weather_19 : decode cX11_weather 19 = .ok (.iload_n 1, 1) := by decide +kernel
theorem dX11_weather_20 : decode cX11_weather 20 = .ok (.ireturn, 1) := by decide +kernel
def WX11_weather (E : ENV) (q0 : Nat) (q0_text : Nat) (q0_town : Nat) (q0_weather : Nat) (q0_rule : Nat) (q0_acts : Nat) (q0_real : Nat) (q0_trial : Nat) (q0_round : Nat) (q0_nights : Nat) (q0_before : Nat) (q0_history : Nat) (q0_kept : Nat) (q0_keptHouses : Nat) (q0_shortest : Nat) (q0_tracks : Nat) (q0_tally : Nat) (q0_told : Nat) (q0_weather_inches : Nat) (q0_text_signs : Nat) (i_toldCount : Int32) (i_weather_length : Int32) (i_weather_cycle : Int32) (i_text_length : Int32) (i_text_place : Int32) (i_text_limit : Int32) (a_weather_inches : Nat → Int32) (a_text_signs : Nat → Int32) : va_W := [(q0, .inr (11, [.ref q0_text, .ref q0_town, .ref q0_weather, .ref q0_rule, .ref q0_acts, .ref q0_real, .ref q0_trial, .ref q0_round, .ref q0_nights, .ref q0_before, .ref q0_history, .ref q0_kept, .ref q0_keptHouses, .ref q0_shortest, .ref q0_tracks, .ref q0_tally, .ref q0_told, .int i_toldCount])), (q0_weather, .inr (10, [.ref q0_weather_inches, .int i_weather_length, .int i_weather_cycle])), (q0_text, .inr (6, [.ref q0_text_signs, .int i_text_length, .int i_text_place, .int i_text_limit])), (q0_weather_inches, .inl (E.2.1, 40, .inl a_weather_inches)), (q0_text_signs, .inl (E.2.1, 80, .inl a_text_signs))]
set_option maxHeartbeats 4000000 in
set_option maxRecDepth 20000 in
theorem kX11_weather (l : Launch) (E : ENV) (q0 : Nat) (q0_text : Nat) (q0_town : Nat) (q0_weather : Nat) (q0_rule : Nat) (q0_acts : Nat) (q0_real : Nat) (q0_trial : Nat) (q0_round : Nat) (q0_nights : Nat) (q0_before : Nat) (q0_history : Nat) (q0_kept : Nat) (q0_keptHouses : Nat) (q0_shortest : Nat) (q0_tracks : Nat) (q0_tally : Nat) (q0_told : Nat) (q0_weather_inches : Nat) (q0_text_signs : Nat) (i_toldCount : Int32) (i_weather_length : Int32) (i_weather_cycle : Int32) (i_text_length : Int32) (i_text_place : Int32) (i_text_limit : Int32) (a_weather_inches : Nat → Int32) (a_text_signs : Nat → Int32) (o9 : Int32 × Int32 × Int32 × Int32 × Int32 × Int32 × (Nat → Int32)) (hf : fX11_weather i_weather_length i_weather_cycle i_text_length i_text_place i_text_limit a_weather_inches a_text_signs = some o9) : CI l E yX11_weather cX11_weather 2 (some .int) 3 [.ref q0] (WX11_weather E q0 q0_text q0_town q0_weather q0_rule q0_acts q0_real q0_trial q0_round q0_nights q0_before q0_history q0_kept q0_keptHouses q0_shortest q0_tracks q0_tally q0_told q0_weather_inches q0_text_signs i_toldCount i_weather_length i_weather_cycle i_text_length i_text_place i_text_limit a_weather_inches a_text_signs) (WX11_weather E q0 q0_text q0_town q0_weather q0_rule q0_acts q0_real q0_trial q0_round q0_nights q0_before q0_history q0_kept q0_keptHouses q0_shortest q0_tracks q0_tally q0_told q0_weather_inches q0_text_signs i_toldCount o9.2.1 o9.2.2.1 o9.2.2.2.1 o9.2.2.2.2.1 o9.2.2.2.2.2.1 o9.2.2.2.2.2.2 a_text_signs) o9.1 := by
  refine begI (by decide +kernel) (Nat.le_of_ble_eq_true rfl) ?_
  intro p e s m args below meth c A Q C hA hret
  have hx := C.1
  have hb := C.2.1
  intro H locs ls hl hP hD hS
  have hl : lv_has ls 2 [(0, .ref q0)] := hl
  unfold fX11_weather at hf
  refine lv_aload_n hx hb dX11_weather_0 rfl (lv_at hl 0 rfl) ?_
  refine gf_RX11_26 C hP 0 rfl rfl dX11_weather_1 ?_
  refine lv_aload_n hx hb dX11_weather_4 rfl (lv_at hl 0 rfl) ?_
  refine gf_RX11_10 C hP 0 rfl rfl dX11_weather_5 ?_
  obtain ⟨o1, hg2, hf⟩ := bd_some hf
  refine k_VI2 (As := [.ref q0_text]) C K_RX11_126 (Nat.le_of_ble_eq_true rfl) (Nat.le_of_ble_eq_true rfl) (kX10_read l E q0_weather q0_weather_inches q0_text q0_text_signs i_weather_length i_weather_cycle a_weather_inches i_text_length i_text_place i_text_limit a_text_signs o1.1 o1.2.1 o1.2.2.1 o1.2.2.2.1 o1.2.2.2.2.1 o1.2.2.2.2.2 hg2) [1, 3, 2, 4] rfl rfl rfl (ci := 10) rfl rfl (q0 := 0) rfl hP hD hS hA hl.1 (Nat.le_of_ble_eq_true rfl) rfl dX11_weather_8 (ws2 := (WX11_weather E q0 q0_text q0_town q0_weather q0_rule q0_acts q0_real q0_trial q0_round q0_nights q0_before q0_history q0_kept q0_keptHouses q0_shortest q0_tracks q0_tally q0_told q0_weather_inches q0_text_signs i_toldCount o1.2.1 o1.2.2.1 i_text_length o1.2.2.2.2.1 o1.2.2.2.2.2 o1.2.2.2.1 a_text_signs)) 5 [0] rfl rfl rfl rfl (by decide +kernel) (fun H locs hP hD hS => ?_)
  refine lv_istore_n (lv' := [(1, .int o1.1), (0, .ref q0)]) hx hb dX11_weather_11 rfl hl (by decide) rfl (fun ls hl => ?_)
  refine lv_aload_n hx hb dX11_weather_12 rfl (lv_at hl 1 rfl) ?_
  refine gf_RX11_10 C hP 0 rfl rfl dX11_weather_13 ?_
  obtain ⟨o3, hg4, hf⟩ := bd_some hf
  refine k_VV2 (As := []) C K_RX11_120 (Nat.le_of_ble_eq_true rfl) (Nat.le_of_ble_eq_true rfl) (kX6_empty l E q0_text q0_text_signs i_text_length o1.2.2.2.2.1 o1.2.2.2.2.2 o3 hg4) [2] rfl rfl rfl (ci := 6) rfl rfl (q0 := 0) rfl hP hD hS hA hl.1 (Nat.le_of_ble_eq_true rfl) rfl dX11_weather_16 (ws2 := (WX11_weather E q0 q0_text q0_town q0_weather q0_rule q0_acts q0_real q0_trial q0_round q0_nights q0_before q0_history q0_kept q0_keptHouses q0_shortest q0_tracks q0_tally q0_told q0_weather_inches q0_text_signs i_toldCount o1.2.1 o1.2.2.1 o3 o1.2.2.2.2.1 o1.2.2.2.2.2 o1.2.2.2.1 a_text_signs)) 5 [0, 1, 3, 4] rfl rfl rfl rfl (by decide +kernel) (fun H locs hP hD hS => ?_)
  refine lv_iload_n hx hb dX11_weather_19 rfl (lv_at hl 0 rfl) ?_
  have hj0 := Option.some.inj hf
  subst hj0
  exact hret _ _ _ _ dX11_weather_20 rfl hP hD hS
theorem q409 : Cond.fieldLink RX11 33 "SnowForSummer" "rule" "LSnowForSummer$Rule;" ∈ Tg := Tg_mem 409 (by decide +kernel) (by decide +kernel)
theorem gf_RX11_33 {p : Program} {l : Launch} {e : Env} {R : Room} {s : State} {m : MethodId} {args : Array Value} {below : List Frame} {meth : Method} {c : Code} {H : Heap} {locs : List Loc} {cells slots : Nat} {Q : State → Prop} {E : ENV} {cc : ByteArray} {n : Nat} {r : Option FieldType} {pc : Nat} {ls : Array Slot} {rest : List Value} {a : Nat} {ws : va_W} {nm ds : String} {fs : List Value} {A : Nat → Prop} {v : Value} (C : Cx E A ⟨RX11, nm, ds⟩ cc n r p s m args meth c) (hP : va_P E.1 classes ws H) (q0 : Nat) (he : ws[q0]? = some (a, .inr (11, fs))) (hv : fs[3]? = some v) (hdg : decode cc pc = .ok (.getfield 33, 3))
    (kk : W p l e R s m args below meth c H locs cells slots Q (F0 m (pc + 3) ls (v :: rest))) : W p l e R s m args below meth c H locs cells slots Q (F0 m pc ls (.ref a :: rest)) :=
  va_get (C := RX11) (T := TX11) (N := 18) (Ts := wl ⟨RX11, nm, ds⟩ cc n r) C.1 C.2.1 C.2.2.2.2.1 (fun w h => List.mem_cons_of_mem _ (inT11 w h)) C.2.2.2.1 C.2.2.2.2.2.1 hP q0 he rfl 3 (by decide) (C.2.2.2.2.1 _ (List.mem_cons_of_mem _ q409)) (fun _ h9 => h9) hv hdg kk
theorem K_RX11_127 : KV RX11 127 yX4_read cX4_read 2 (some .int) 1 := ⟨Tg_mem 570 (by decide +kernel) (by decide +kernel), Tg_mem 94 (by decide +kernel) (by decide +kernel), Tg_mem 567 (by decide +kernel) (by decide +kernel), Tg_mem 568 (by decide +kernel) (by decide +kernel), Tg_mem 569 (by decide +kernel) (by decide +kernel), by decide +kernel⟩
theorem dX11_rule_0 : decode cX11_rule 0 = .ok (.aload_n 0, 1) := by decide +kernel
theorem dX11_rule_1 : decode cX11_rule 1 = .ok (.getfield 33, 3) := by decide +kernel
theorem dX11_rule_4 : decode cX11_rule 4 = .ok (.aload_n 0, 1) := by decide +kernel
theorem dX11_rule_5 : decode cX11_rule 5 = .ok (.getfield 10, 3) := by decide +kernel
theorem dX11_rule_8 : decode cX11_rule 8 = .ok (.invokevirtual 127, 3) := by decide +kernel
theorem dX11_rule_11 : decode cX11_rule 11 = .ok (.istore_n 1, 1) := by decide +kernel
theorem dX11_rule_12 : decode cX11_rule 12 = .ok (.aload_n 0, 1) := by decide +kernel
theorem dX11_rule_13 : decode cX11_rule 13 = .ok (.getfield 10, 3) := by decide +kernel
theorem dX11_rule_16 : decode cX11_rule 16 = .ok (.invokevirtual 120, 3) := by decide +kernel
theorem dX11_rule_19 : decode cX11_rule 19 = .ok (.iload_n 1, 1) := by decide +kernel
theorem dX11_rule_20 : decode cX11_rule 20 = .ok (.ireturn, 1) := by decide +kernel
def WX11_rule (E : ENV) (q0 : Nat) (q0_text : Nat) (q0_town : Nat) (q0_weather : Nat) (q0_rule : Nat) (q0_acts : Nat) (q0_real : Nat) (q0_trial : Nat) (q0_round : Nat) (q0_nights : Nat) (q0_before : Nat) (q0_history : Nat) (q0_kept : Nat) (q0_keptHouses : Nat) (q0_shortest : Nat) (q0_tracks : Nat) (q0_tally : Nat) (q0_told : Nat) (q0_rule_code : Nat) (q0_rule_draft : Nat) (q0_rule_stack : Nat) (q0_rule_things : Nat) (q0_text_signs : Nat) (i_toldCount : Int32) (i_rule_length : Int32) (i_rule_drafted : Int32) (i_text_length : Int32) (i_text_place : Int32) (i_text_limit : Int32) (a_rule_draft : Nat → Int32) (a_rule_code : Nat → Int32) (a_text_signs : Nat → Int32) : va_W := [(q0, .inr (11, [.ref q0_text, .ref q0_town, .ref q0_weather, .ref q0_rule, .ref q0_acts, .ref q0_real, .ref q0_trial, .ref q0_round, .ref q0_nights, .ref q0_before, .ref q0_history, .ref q0_kept, .ref q0_keptHouses, .ref q0_shortest, .ref q0_tracks, .ref q0_tally, .ref q0_told, .int i_toldCount])), (q0_rule, .inr (4, [.ref q0_rule_code, .ref q0_rule_draft, .ref q0_rule_stack, .ref q0_rule_things, .int i_rule_length, .int i_rule_drafted])), (q0_text, .inr (6, [.ref q0_text_signs, .int i_text_length, .int i_text_place, .int i_text_limit])), (q0_rule_draft, .inl (E.2.1, 40, .inl a_rule_draft)), (q0_rule_code, .inl (E.2.1, 40, .inl a_rule_code)), (q0_text_signs, .inl (E.2.1, 80, .inl a_text_signs))]
set_option maxHeartbeats 4000000 in
set_option maxRecDepth 20000 in
theorem kX11_rule (l : Launch) (E : ENV) (q0 : Nat) (q0_text : Nat) (q0_town : Nat) (q0_weather : Nat) (q0_rule : Nat) (q0_acts : Nat) (q0_real : Nat) (q0_trial : Nat) (q0_round : Nat) (q0_nights : Nat) (q0_before : Nat) (q0_history : Nat) (q0_kept : Nat) (q0_keptHouses : Nat) (q0_shortest : Nat) (q0_tracks : Nat) (q0_tally : Nat) (q0_told : Nat) (q0_rule_code : Nat) (q0_rule_draft : Nat) (q0_rule_stack : Nat) (q0_rule_things : Nat) (q0_text_signs : Nat) (i_toldCount : Int32) (i_rule_length : Int32) (i_rule_drafted : Int32) (i_text_length : Int32) (i_text_place : Int32) (i_text_limit : Int32) (a_rule_draft : Nat → Int32) (a_rule_code : Nat → Int32) (a_text_signs : Nat → Int32) (o9 : Int32 × Int32 × Int32 × Int32 × Int32 × Int32 × (Nat → Int32) × (Nat → Int32)) (hf : fX11_rule i_rule_length i_rule_drafted i_text_length i_text_place i_text_limit a_rule_draft a_rule_code a_text_signs = some o9) : CI l E yX11_rule cX11_rule 2 (some .int) 36 [.ref q0] (WX11_rule E q0 q0_text q0_town q0_weather q0_rule q0_acts q0_real q0_trial q0_round q0_nights q0_before q0_history q0_kept q0_keptHouses q0_shortest q0_tracks q0_tally q0_told q0_rule_code q0_rule_draft q0_rule_stack q0_rule_things q0_text_signs i_toldCount i_rule_length i_rule_drafted i_text_length i_text_place i_text_limit a_rule_draft a_rule_code a_text_signs) (WX11_rule E q0 q0_text q0_town q0_weather q0_rule q0_acts q0_real q0_trial q0_round q0_nights q0_before q0_history q0_kept q0_keptHouses q0_shortest q0_tracks q0_tally q0_told q0_rule_code q0_rule_draft q0_rule_stack q0_rule_things q0_text_signs i_toldCount o9.2.1 o9.2.2.1 o9.2.2.2.1 o9.2.2.2.2.1 o9.2.2.2.2.2.1 o9.2.2.2.2.2.2.1 o9.2.2.2.2.2.2.2 a_text_signs) o9.1 := by
  refine begI (by decide +kernel) (Nat.le_of_ble_eq_true rfl) ?_
  intro p e s m args below meth c A Q C hA hret
  have hx := C.1
  have hb := C.2.1
  intro H locs ls hl hP hD hS
  have hl : lv_has ls 2 [(0, .ref q0)] := hl
  unfold fX11_rule at hf
  refine lv_aload_n hx hb dX11_rule_0 rfl (lv_at hl 0 rfl) ?_
  refine gf_RX11_33 C hP 0 rfl rfl dX11_rule_1 ?_
  refine lv_aload_n hx hb dX11_rule_4 rfl (lv_at hl 0 rfl) ?_
  refine gf_RX11_10 C hP 0 rfl rfl dX11_rule_5 ?_
  obtain ⟨o1, hg2, hf⟩ := bd_some hf
  refine k_VI2 (As := [.ref q0_text]) C K_RX11_127 (Nat.le_of_ble_eq_true rfl) (Nat.le_of_ble_eq_true rfl) (kX4_read l E q0_rule q0_rule_code q0_rule_draft q0_rule_stack q0_rule_things q0_text q0_text_signs i_rule_length i_rule_drafted a_rule_draft a_rule_code i_text_length i_text_place i_text_limit a_text_signs o1.1 o1.2.1 o1.2.2.1 o1.2.2.2.1 o1.2.2.2.2.1 o1.2.2.2.2.2.1 o1.2.2.2.2.2.2 hg2) [1, 3, 4, 2, 5] rfl rfl rfl (ci := 4) rfl rfl (q0 := 0) rfl hP hD hS hA hl.1 (Nat.le_of_ble_eq_true rfl) rfl dX11_rule_8 (ws2 := (WX11_rule E q0 q0_text q0_town q0_weather q0_rule q0_acts q0_real q0_trial q0_round q0_nights q0_before q0_history q0_kept q0_keptHouses q0_shortest q0_tracks q0_tally q0_told q0_rule_code q0_rule_draft q0_rule_stack q0_rule_things q0_text_signs i_toldCount o1.2.1 o1.2.2.1 i_text_length o1.2.2.2.2.2.1 o1.2.2.2.2.2.2 o1.2.2.2.1 o1.2.2.2.2.1 a_text_signs)) 6 [0] rfl rfl rfl rfl (by decide +kernel) (fun H locs hP hD hS => ?_)
  refine lv_istore_n (lv' := [(1, .int o1.1), (0, .ref q0)]) hx hb dX11_rule_11 rfl hl (by decide) rfl (fun ls hl => ?_)
  refine lv_aload_n hx hb dX11_rule_12 rfl (lv_at hl 1 rfl) ?_
  refine gf_RX11_10 C hP 0 rfl rfl dX11_rule_13 ?_
  obtain ⟨o3, hg4, hf⟩ := bd_some hf
  refine k_VV2 (As := []) C K_RX11_120 (Nat.le_of_ble_eq_true rfl) (Nat.le_of_ble_eq_true rfl) (kX6_empty l E q0_text q0_text_signs i_text_length o1.2.2.2.2.2.1 o1.2.2.2.2.2.2 o3 hg4) [2] rfl rfl rfl (ci := 6) rfl rfl (q0 := 0) rfl hP hD hS hA hl.1 (Nat.le_of_ble_eq_true rfl) rfl dX11_rule_16 (ws2 := (WX11_rule E q0 q0_text q0_town q0_weather q0_rule q0_acts q0_real q0_trial q0_round q0_nights q0_before q0_history q0_kept q0_keptHouses q0_shortest q0_tracks q0_tally q0_told q0_rule_code q0_rule_draft q0_rule_stack q0_rule_things q0_text_signs i_toldCount o1.2.1 o1.2.2.1 o3 o1.2.2.2.2.2.1 o1.2.2.2.2.2.2 o1.2.2.2.1 o1.2.2.2.2.1 a_text_signs)) 6 [0, 1, 3, 4, 5] rfl rfl rfl rfl (by decide +kernel) (fun H locs hP hD hS => ?_)
  refine lv_iload_n hx hb dX11_rule_19 rfl (lv_at hl 0 rfl) ?_
  have hj0 := Option.some.inj hf
  subst hj0
  exact hret _ _ _ _ dX11_rule_20 rfl hP hD hS
theorem K_RX11_128 : KS RX11 128 yX11_isWithin cX11_isWithin 3 (some .boolean) 3 := ⟨Tg_mem 695 (by decide +kernel) (by decide +kernel), Tg_mem 90 (by decide +kernel) (by decide +kernel), Tg_mem 693 (by decide +kernel) (by decide +kernel), Tg_mem 694 (by decide +kernel) (by decide +kernel), by decide +kernel⟩
theorem K_RX11_132 : KV RX11 132 yX10_draw cX10_draw 7 (some .int) 2 := ⟨Tg_mem 699 (by decide +kernel) (by decide +kernel), Tg_mem 93 (by decide +kernel) (by decide +kernel), Tg_mem 696 (by decide +kernel) (by decide +kernel), Tg_mem 697 (by decide +kernel) (by decide +kernel), Tg_mem 698 (by decide +kernel) (by decide +kernel), by decide +kernel⟩
theorem dX11_winter_0 : decode cX11_winter 0 = .ok (.iload_n 2, 1) := by decide +kernel
theorem dX11_winter_1 : decode cX11_winter 1 = .ok (.iconst 1, 1) := by decide +kernel
theorem dX11_winter_2 : decode cX11_winter 2 = .ok (.bipush 40, 2) := by decide +kernel
theorem dX11_winter_4 : decode cX11_winter 4 = .ok (.invokestatic 128, 3) := by decide +kernel
theorem dX11_winter_7 : decode cX11_winter 7 = .ok (.ifCond .eq 15, 3) := by decide +kernel
theorem dX11_winter_10 : decode cX11_winter 10 = .ok (.aload_n 0, 1) := by decide +kernel
theorem dX11_winter_11 : decode cX11_winter 11 = .ok (.getfield 26, 3) := by decide +kernel
theorem dX11_winter_14 : decode cX11_winter 14 = .ok (.iload_n 1, 1) := by decide +kernel
theorem dX11_winter_15 : decode cX11_winter 15 = .ok (.iload_n 2, 1) := by decide +kernel
theorem dX11_winter_16 : decode cX11_winter 16 = .ok (.invokevirtual 132, 3) := by decide +kernel
theorem dX11_winter_19 : decode cX11_winter 19 = .ok (.goto 4, 3) := by decide +kernel
theorem dX11_winter_22 : decode cX11_winter 22 = .ok (.iconst (-1), 1) := by decide +kernel
theorem dX11_winter_23 : decode cX11_winter 23 = .ok (.ireturn, 1) := by decide +kernel
def WX11_winter (E : ENV) (q0 : Nat) (q0_text : Nat) (q0_town : Nat) (q0_weather : Nat) (q0_rule : Nat) (q0_acts : Nat) (q0_real : Nat) (q0_trial : Nat) (q0_round : Nat) (q0_nights : Nat) (q0_before : Nat) (q0_history : Nat) (q0_kept : Nat) (q0_keptHouses : Nat) (q0_shortest : Nat) (q0_tracks : Nat) (q0_tally : Nat) (q0_told : Nat) (q0_weather_inches : Nat) (i_toldCount : Int32) (i_weather_length : Int32) (i_weather_cycle : Int32) (a_weather_inches : Nat → Int32) : va_W := [(q0, .inr (11, [.ref q0_text, .ref q0_town, .ref q0_weather, .ref q0_rule, .ref q0_acts, .ref q0_real, .ref q0_trial, .ref q0_round, .ref q0_nights, .ref q0_before, .ref q0_history, .ref q0_kept, .ref q0_keptHouses, .ref q0_shortest, .ref q0_tracks, .ref q0_tally, .ref q0_told, .int i_toldCount])), (q0_weather, .inr (10, [.ref q0_weather_inches, .int i_weather_length, .int i_weather_cycle])), (q0_weather_inches, .inl (E.2.1, 40, .inl a_weather_inches))]
set_option maxHeartbeats 4000000 in
set_option maxRecDepth 20000 in
theorem kX11_winter (l : Launch) (E : ENV) (q0 : Nat) (q0_text : Nat) (q0_town : Nat) (q0_weather : Nat) (q0_rule : Nat) (q0_acts : Nat) (q0_real : Nat) (q0_trial : Nat) (q0_round : Nat) (q0_nights : Nat) (q0_before : Nat) (q0_history : Nat) (q0_kept : Nat) (q0_keptHouses : Nat) (q0_shortest : Nat) (q0_tracks : Nat) (q0_tally : Nat) (q0_told : Nat) (q0_weather_inches : Nat) (i_toldCount : Int32) (i_weather_length : Int32) (i_weather_cycle : Int32) (a_weather_inches : Nat → Int32) (p1 : Int32) (p2 : Int32) (o9 : Int32 × Int32 × Int32 × (Nat → Int32)) (hf : fX11_winter i_weather_length i_weather_cycle a_weather_inches p1 p2 = some o9) : CI l E yX11_winter cX11_winter 3 (some .int) 2 [.ref q0, .int p1, .int p2] (WX11_winter E q0 q0_text q0_town q0_weather q0_rule q0_acts q0_real q0_trial q0_round q0_nights q0_before q0_history q0_kept q0_keptHouses q0_shortest q0_tracks q0_tally q0_told q0_weather_inches i_toldCount i_weather_length i_weather_cycle a_weather_inches) (WX11_winter E q0 q0_text q0_town q0_weather q0_rule q0_acts q0_real q0_trial q0_round q0_nights q0_before q0_history q0_kept q0_keptHouses q0_shortest q0_tracks q0_tally q0_told q0_weather_inches i_toldCount o9.2.1 o9.2.2.1 o9.2.2.2) o9.1 := by
  refine begI (by decide +kernel) (Nat.le_of_ble_eq_true rfl) ?_
  intro p e s m args below meth c A Q C hA hret
  have hx := C.1
  have hb := C.2.1
  intro H locs ls hl hP hD hS
  have hl : lv_has ls 3 [(0, .ref q0), (1, .int p1), (2, .int p2)] := hl
  unfold fX11_winter at hf
  refine lv_iload_n hx hb dX11_winter_0 rfl (lv_at hl 2 rfl) ?_
  refine lv_iconst (v := 1) hx hb dX11_winter_1 (by decide) ?_
  refine lv_bipush (v := 40) hx hb dX11_winter_2 (by decide) ?_
  obtain ⟨o1, hg2, hf⟩ := bd_some hf
  refine k_SI2 (As := [.int p2, .int 1, .int 40]) C K_RX11_128 (Nat.le_of_ble_eq_true rfl) (Nat.le_of_ble_eq_true rfl) (kX11_isWithin l E p2 1 40 o1 hg2) [] rfl rfl rfl  hP hD hS hA hl.1 (Nat.le_of_ble_eq_true rfl) rfl dX11_winter_4 (ws2 := (WX11_winter E q0 q0_text q0_town q0_weather q0_rule q0_acts q0_real q0_trial q0_round q0_nights q0_before q0_history q0_kept q0_keptHouses q0_shortest q0_tracks q0_tally q0_told q0_weather_inches i_toldCount i_weather_length i_weather_cycle a_weather_inches)) 3 [0, 1, 2] rfl rfl rfl rfl (by decide +kernel) (fun H locs hP hD hS => ?_)
  refine lv_if_eq (tgt := 22) hx hb dX11_winter_7 (by decide) (fun c3 => ?_) (fun c3 => ?_)
  · rw [if_pos c3] at hf
    refine lv_iconst (v := (-1)) hx hb dX11_winter_22 (by decide) ?_
    have hj0 := Option.some.inj hf
    subst hj0
    exact hret _ _ _ _ dX11_winter_23 rfl hP hD hS
  · rw [if_neg c3] at hf
    refine lv_aload_n hx hb dX11_winter_10 rfl (lv_at hl 0 rfl) ?_
    refine gf_RX11_26 C hP 0 rfl rfl dX11_winter_11 ?_
    refine lv_iload_n hx hb dX11_winter_14 rfl (lv_at hl 1 rfl) ?_
    refine lv_iload_n hx hb dX11_winter_15 rfl (lv_at hl 2 rfl) ?_
    obtain ⟨o4, hg5, hf⟩ := bd_some hf
    refine k_VI2 (As := [.int p1, .int p2]) C K_RX11_132 (Nat.le_of_ble_eq_true rfl) (Nat.le_of_ble_eq_true rfl) (kX10_draw l E q0_weather q0_weather_inches i_weather_length i_weather_cycle a_weather_inches p1 p2 o4.1 o4.2.1 o4.2.2.1 o4.2.2.2 hg5) [1, 2] rfl rfl rfl (ci := 10) rfl rfl (q0 := 0) rfl hP hD hS hA hl.1 (Nat.le_of_ble_eq_true rfl) rfl dX11_winter_16 (ws2 := (WX11_winter E q0 q0_text q0_town q0_weather q0_rule q0_acts q0_real q0_trial q0_round q0_nights q0_before q0_history q0_kept q0_keptHouses q0_shortest q0_tracks q0_tally q0_told q0_weather_inches i_toldCount o4.2.1 o4.2.2.1 o4.2.2.2)) 3 [0] rfl rfl rfl rfl (by decide +kernel) (fun H locs hP hD hS => ?_)
    refine lv_goto (tgt := 23) hx hb dX11_winter_19 (by decide) ?_
    have hj0 := Option.some.inj hf
    subst hj0
    exact hret _ _ _ _ dX11_winter_23 rfl hP hD hS
theorem K_RX11_136 : KV RX11 136 yX10_inchesIn cX10_inchesIn 2 (some .int) 1 := ⟨Tg_mem 709 (by decide +kernel) (by decide +kernel), Tg_mem 93 (by decide +kernel) (by decide +kernel), Tg_mem 706 (by decide +kernel) (by decide +kernel), Tg_mem 707 (by decide +kernel) (by decide +kernel), Tg_mem 708 (by decide +kernel) (by decide +kernel), by decide +kernel⟩
theorem dX11_falls_0 : decode cX11_falls 0 = .ok (.iload_n 1, 1) := by decide +kernel
theorem dX11_falls_1 : decode cX11_falls 1 = .ok (.iconst 0, 1) := by decide +kernel
theorem dX11_falls_2 : decode cX11_falls 2 = .ok (.sipush 9999, 3) := by decide +kernel
theorem dX11_falls_5 : decode cX11_falls 5 = .ok (.invokestatic 128, 3) := by decide +kernel
theorem dX11_falls_8 : decode cX11_falls 8 = .ok (.ifCond .eq 14, 3) := by decide +kernel
theorem dX11_falls_11 : decode cX11_falls 11 = .ok (.aload_n 0, 1) := by decide +kernel
theorem dX11_falls_12 : decode cX11_falls 12 = .ok (.getfield 26, 3) := by decide +kernel
theorem dX11_falls_15 : decode cX11_falls 15 = .ok (.iload_n 1, 1) := by decide +kernel
theorem dX11_falls_16 : decode cX11_falls 16 = .ok (.invokevirtual 136, 3) := by decide +kernel
theorem dX11_falls_19 : decode cX11_falls 19 = .ok (.goto 5, 3) := by decide +kernel
theorem dX11_falls_22 : decode cX11_falls 22 = .ok (.bipush (-10), 2) := by decide +kernel
theorem dX11_falls_24 : decode cX11_falls 24 = .ok (.ireturn, 1) := by decide +kernel
def WX11_falls (E : ENV) (q0 : Nat) (q0_text : Nat) (q0_town : Nat) (q0_weather : Nat) (q0_rule : Nat) (q0_acts : Nat) (q0_real : Nat) (q0_trial : Nat) (q0_round : Nat) (q0_nights : Nat) (q0_before : Nat) (q0_history : Nat) (q0_kept : Nat) (q0_keptHouses : Nat) (q0_shortest : Nat) (q0_tracks : Nat) (q0_tally : Nat) (q0_told : Nat) (q0_weather_inches : Nat) (i_toldCount : Int32) (i_weather_length : Int32) (i_weather_cycle : Int32) (a_weather_inches : Nat → Int32) : va_W := [(q0, .inr (11, [.ref q0_text, .ref q0_town, .ref q0_weather, .ref q0_rule, .ref q0_acts, .ref q0_real, .ref q0_trial, .ref q0_round, .ref q0_nights, .ref q0_before, .ref q0_history, .ref q0_kept, .ref q0_keptHouses, .ref q0_shortest, .ref q0_tracks, .ref q0_tally, .ref q0_told, .int i_toldCount])), (q0_weather, .inr (10, [.ref q0_weather_inches, .int i_weather_length, .int i_weather_cycle])), (q0_weather_inches, .inl (E.2.1, 40, .inl a_weather_inches))]
set_option maxHeartbeats 4000000 in
set_option maxRecDepth 20000 in
theorem kX11_falls (l : Launch) (E : ENV) (q0 : Nat) (q0_text : Nat) (q0_town : Nat) (q0_weather : Nat) (q0_rule : Nat) (q0_acts : Nat) (q0_real : Nat) (q0_trial : Nat) (q0_round : Nat) (q0_nights : Nat) (q0_before : Nat) (q0_history : Nat) (q0_kept : Nat) (q0_keptHouses : Nat) (q0_shortest : Nat) (q0_tracks : Nat) (q0_tally : Nat) (q0_told : Nat) (q0_weather_inches : Nat) (i_toldCount : Int32) (i_weather_length : Int32) (i_weather_cycle : Int32) (a_weather_inches : Nat → Int32) (p1 : Int32) (o9 : Int32) (hf : fX11_falls i_weather_cycle a_weather_inches p1 = some o9) : CI l E yX11_falls cX11_falls 2 (some .int) 1 [.ref q0, .int p1] (WX11_falls E q0 q0_text q0_town q0_weather q0_rule q0_acts q0_real q0_trial q0_round q0_nights q0_before q0_history q0_kept q0_keptHouses q0_shortest q0_tracks q0_tally q0_told q0_weather_inches i_toldCount i_weather_length i_weather_cycle a_weather_inches) (WX11_falls E q0 q0_text q0_town q0_weather q0_rule q0_acts q0_real q0_trial q0_round q0_nights q0_before q0_history q0_kept q0_keptHouses q0_shortest q0_tracks q0_tally q0_told q0_weather_inches i_toldCount i_weather_length i_weather_cycle a_weather_inches) o9 := by
  refine begI (by decide +kernel) (Nat.le_of_ble_eq_true rfl) ?_
  intro p e s m args below meth c A Q C hA hret
  have hx := C.1
  have hb := C.2.1
  intro H locs ls hl hP hD hS
  have hl : lv_has ls 2 [(0, .ref q0), (1, .int p1)] := hl
  unfold fX11_falls at hf
  refine lv_iload_n hx hb dX11_falls_0 rfl (lv_at hl 1 rfl) ?_
  refine lv_iconst (v := 0) hx hb dX11_falls_1 (by decide) ?_
  refine lv_sipush (v := 9999) hx hb dX11_falls_2 (by decide) ?_
  obtain ⟨o1, hg2, hf⟩ := bd_some hf
  refine k_SI2 (As := [.int p1, .int 0, .int 9999]) C K_RX11_128 (Nat.le_of_ble_eq_true rfl) (Nat.le_of_ble_eq_true rfl) (kX11_isWithin l E p1 0 9999 o1 hg2) [] rfl rfl rfl  hP hD hS hA hl.1 (Nat.le_of_ble_eq_true rfl) rfl dX11_falls_5 (ws2 := (WX11_falls E q0 q0_text q0_town q0_weather q0_rule q0_acts q0_real q0_trial q0_round q0_nights q0_before q0_history q0_kept q0_keptHouses q0_shortest q0_tracks q0_tally q0_told q0_weather_inches i_toldCount i_weather_length i_weather_cycle a_weather_inches)) 3 [0, 1, 2] rfl rfl rfl rfl (by decide +kernel) (fun H locs hP hD hS => ?_)
  refine lv_if_eq (tgt := 22) hx hb dX11_falls_8 (by decide) (fun c3 => ?_) (fun c3 => ?_)
  · rw [if_pos c3] at hf
    refine lv_bipush (v := (-10)) hx hb dX11_falls_22 (by decide) ?_
    have hj0 := Option.some.inj hf
    subst hj0
    exact hret _ _ _ _ dX11_falls_24 rfl hP hD hS
  · rw [if_neg c3] at hf
    refine lv_aload_n hx hb dX11_falls_11 rfl (lv_at hl 0 rfl) ?_
    refine gf_RX11_26 C hP 0 rfl rfl dX11_falls_12 ?_
    refine lv_iload_n hx hb dX11_falls_15 rfl (lv_at hl 1 rfl) ?_
    obtain ⟨o4, hg5, hf⟩ := bd_some hf
    refine k_VI2 (As := [.int p1]) C K_RX11_136 (Nat.le_of_ble_eq_true rfl) (Nat.le_of_ble_eq_true rfl) (kX10_inchesIn l E q0_weather q0_weather_inches i_weather_length i_weather_cycle a_weather_inches p1 o4 hg5) [1, 2] rfl rfl rfl (ci := 10) rfl rfl (q0 := 0) rfl hP hD hS hA hl.1 (Nat.le_of_ble_eq_true rfl) rfl dX11_falls_16 (ws2 := (WX11_falls E q0 q0_text q0_town q0_weather q0_rule q0_acts q0_real q0_trial q0_round q0_nights q0_before q0_history q0_kept q0_keptHouses q0_shortest q0_tracks q0_tally q0_told q0_weather_inches i_toldCount i_weather_length i_weather_cycle a_weather_inches)) 3 [0] rfl rfl rfl rfl (by decide +kernel) (fun H locs hP hD hS => ?_)
    refine lv_goto (tgt := 24) hx hb dX11_falls_19 (by decide) ?_
    have hj0 := Option.some.inj hf
    subst hj0
    exact hret _ _ _ _ dX11_falls_24 rfl hP hD hS
theorem dX11_exchange_0 : decode cX11_exchange 0 = .ok (.iload_n 1, 1) := by decide +kernel
theorem dX11_exchange_1 : decode cX11_exchange 1 = .ok (.ifCond .lt 19, 3) := by decide +kernel
theorem dX11_exchange_4 : decode cX11_exchange 4 = .ok (.iload_n 1, 1) := by decide +kernel
theorem dX11_exchange_5 : decode cX11_exchange 5 = .ok (.aload_n 0, 1) := by decide +kernel
theorem dX11_exchange_6 : decode cX11_exchange 6 = .ok (.arraylength, 1) := by decide +kernel
theorem dX11_exchange_7 : decode cX11_exchange 7 = .ok (.if_icmp .ge 13, 3) := by decide +kernel
theorem dX11_exchange_10 : decode cX11_exchange 10 = .ok (.iload_n 2, 1) := by decide +kernel
theorem dX11_exchange_11 : decode cX11_exchange 11 = .ok (.iload_n 3, 1) := by decide +kernel
theorem dX11_exchange_12 : decode cX11_exchange 12 = .ok (.iload 4, 2) := by decide +kernel
theorem dX11_exchange_14 : decode cX11_exchange 14 = .ok (.invokestatic 128, 3) := by decide +kernel
theorem dX11_exchange_17 : decode cX11_exchange 17 = .ok (.ifCond .ne 5, 3) := by decide +kernel
theorem dX11_exchange_20 : decode cX11_exchange 20 = .ok (.iconst (-1), 1) := by decide +kernel
theorem dX11_exchange_21 : decode cX11_exchange 21 = .ok (.ireturn, 1) := by decide +kernel
theorem dX11_exchange_22 : decode cX11_exchange 22 = .ok (.aload_n 0, 1) := by decide +kernel
theorem dX11_exchange_23 : decode cX11_exchange 23 = .ok (.iload_n 1, 1) := by decide +kernel
theorem dX11_exchange_24 : decode cX11_exchange 24 = .ok (.iaload, 1) := by decide +kernel
theorem dX11_exchange_25 : decode cX11_exchange 25 = .ok (.istore 5, 2) := by decide +kernel
theorem dX11_exchange_27 : decode cX11_exchange 27 = .ok (.aload_n 0, 1) := by decide +kernel
theorem dX11_exchange_28 : decode cX11_exchange 28 = .ok (.iload_n 1, 1) := by decide +kernel
theorem dX11_exchange_29 : decode cX11_exchange 29 = .ok (.iload_n 2, 1) := by decide +kernel
theorem dX11_exchange_30 : decode cX11_exchange 30 = .ok (.iastore, 1) := by decide +kernel
theorem dX11_exchange_31 : decode cX11_exchange 31 = .ok (.iload 5, 2) := by decide +kernel
theorem dX11_exchange_33 : decode cX11_exchange 33 = .ok (.ireturn, 1) := by decide +kernel
def WX11_exchange (E : ENV) (q0 : Nat) (n_ : Nat) (a_ : Nat → Int32) : va_W := [(q0, .inl (E.2.1, n_, .inl a_))]
set_option maxHeartbeats 4000000 in
set_option maxRecDepth 20000 in
theorem kX11_exchange (l : Launch) (E : ENV) (q0 : Nat) (n_ : Nat) (a_ : Nat → Int32) (p1 : Int32) (p2 : Int32) (p3 : Int32) (p4 : Int32) (o9 : Int32 × (Nat → Int32)) (hf : fX11_exchange n_ a_ p1 p2 p3 p4 = some o9) : CI l E yX11_exchange cX11_exchange 6 (some .int) 1 [.ref q0, .int p1, .int p2, .int p3, .int p4] (WX11_exchange E q0 n_ a_) (WX11_exchange E q0 n_ o9.2) o9.1 := by
  refine begI (by decide +kernel) (Nat.le_of_ble_eq_true rfl) ?_
  intro p e s m args below meth c A Q C hA hret
  have hx := C.1
  have hb := C.2.1
  intro H locs ls hl hP hD hS
  have hl : lv_has ls 6 [(0, .ref q0), (1, .int p1), (2, .int p2), (3, .int p3), (4, .int p4)] := hl
  unfold fX11_exchange at hf
  refine lv_iload_n hx hb dX11_exchange_0 rfl (lv_at hl 1 rfl) ?_
  refine lv_if_lt (tgt := 20) hx hb dX11_exchange_1 (by decide) (fun c1 => ?_) (fun c1 => ?_)
  · rw [if_pos c1] at hf
    refine lv_iconst (v := (-1)) hx hb dX11_exchange_20 (by decide) ?_
    have hj0 := Option.some.inj hf
    subst hj0
    exact hret _ _ _ _ dX11_exchange_21 rfl hP hD hS
  · rw [if_neg c1] at hf
    refine lv_iload_n hx hb dX11_exchange_4 rfl (lv_at hl 1 rfl) ?_
    refine lv_aload_n hx hb dX11_exchange_5 rfl (lv_at hl 0 rfl) ?_
    refine va_alen hx hb C.2.2.2.2.2.1 hP 0 0 rfl rfl (v := (Int32.ofNat n_)) rfl dX11_exchange_6 ?_
    refine lv_icmp_ge (tgt := 20) hx hb dX11_exchange_7 (by decide) (fun c2 => ?_) (fun c2 => ?_)
    · rw [if_pos c2] at hf
      refine lv_iconst (v := (-1)) hx hb dX11_exchange_20 (by decide) ?_
      have hj0 := Option.some.inj hf
      subst hj0
      exact hret _ _ _ _ dX11_exchange_21 rfl hP hD hS
    · rw [if_neg c2] at hf
      refine lv_iload_n hx hb dX11_exchange_10 rfl (lv_at hl 2 rfl) ?_
      refine lv_iload_n hx hb dX11_exchange_11 rfl (lv_at hl 3 rfl) ?_
      refine lv_iload hx hb dX11_exchange_12 (lv_at hl 4 rfl) ?_
      obtain ⟨o3, hg4, hf⟩ := bd_some hf
      refine k_SI2 (As := [.int p2, .int p3, .int p4]) C K_RX11_128 (Nat.le_of_ble_eq_true rfl) (Nat.le_of_ble_eq_true rfl) (kX11_isWithin l E p2 p3 p4 o3 hg4) [] rfl rfl rfl  hP hD hS hA hl.1 (Nat.le_of_ble_eq_true rfl) rfl dX11_exchange_14 (ws2 := (WX11_exchange E q0 n_ a_)) 1 [0] rfl rfl rfl rfl (by decide +kernel) (fun H locs hP hD hS => ?_)
      refine lv_if_ne (tgt := 22) hx hb dX11_exchange_17 (by decide) (fun c5 => ?_) (fun c5 => ?_)
      · rw [if_neg c5] at hf
        refine lv_aload_n hx hb dX11_exchange_22 rfl (lv_at hl 0 rfl) ?_
        refine lv_iload_n hx hb dX11_exchange_23 rfl (lv_at hl 1 rfl) ?_
        obtain ⟨g6, hf⟩ := gd_some hf
        refine va_iald hx hb C.2.2.2.2.2.1 hP 0 0 rfl rfl (vin_in g6) dX11_exchange_24 ?_
        refine lv_istore (lv' := [(5, .int ((a_ (p1 : Int32).toNatClampNeg))), (0, .ref q0), (1, .int p1), (2, .int p2), (3, .int p3), (4, .int p4)]) hx hb dX11_exchange_25 hl (by decide) rfl (fun ls hl => ?_)
        refine lv_aload_n hx hb dX11_exchange_27 rfl (lv_at hl 1 rfl) ?_
        refine lv_iload_n hx hb dX11_exchange_28 rfl (lv_at hl 2 rfl) ?_
        refine lv_iload_n hx hb dX11_exchange_29 rfl (lv_at hl 3 rfl) ?_
        obtain ⟨g7, hf⟩ := gd_some hf
        refine va_iast hx hb C.2.2.2.2.2.1 hP hD hS 0 0 rfl rfl (vin_in g7) dX11_exchange_30 (fun H locs hP hD hS => ?_)
        have hP : va_P E.1 classes (WX11_exchange E q0 n_ ((upd a_ (p1 : Int32).toNatClampNeg p2))) H := hP
        have hD : va_D A (WX11_exchange E q0 n_ ((upd a_ (p1 : Int32).toNatClampNeg p2))) := hD
        refine lv_iload hx hb dX11_exchange_31 (lv_at hl 0 rfl) ?_
        have hj0 := Option.some.inj hf
        subst hj0
        exact hret _ _ _ _ dX11_exchange_33 rfl hP hD hS
      · rw [if_pos c5] at hf
        refine lv_iconst (v := (-1)) hx hb dX11_exchange_20 (by decide) ?_
        have hj0 := Option.some.inj hf
        subst hj0
        exact hret _ _ _ _ dX11_exchange_21 rfl hP hD hS
theorem K_RX11_139 : KV RX11 139 yX7_has cX7_has 2 (some .boolean) 1 := ⟨Tg_mem 717 (by decide +kernel) (by decide +kernel), Tg_mem 92 (by decide +kernel) (by decide +kernel), Tg_mem 714 (by decide +kernel) (by decide +kernel), Tg_mem 715 (by decide +kernel) (by decide +kernel), Tg_mem 716 (by decide +kernel) (by decide +kernel), by decide +kernel⟩
theorem q153 : Cond.fieldLinkNest RX11 145 "SnowForSummer$Town" "hold" "[I" "SnowForSummer" ∈ NL := NL_mem 153 (by decide +kernel) (by decide +kernel)
theorem gf_RX11_145 {p : Program} {l : Launch} {e : Env} {R : Room} {s : State} {m : MethodId} {args : Array Value} {below : List Frame} {meth : Method} {c : Code} {H : Heap} {locs : List Loc} {cells slots : Nat} {Q : State → Prop} {E : ENV} {cc : ByteArray} {n : Nat} {r : Option FieldType} {pc : Nat} {ls : Array Slot} {rest : List Value} {a : Nat} {ws : va_W} {nm ds : String} {fs : List Value} {A : Nat → Prop} {v : Value} (C : Cx E A ⟨RX11, nm, ds⟩ cc n r p s m args meth c) (hP : va_P E.1 classes ws H) (q0 : Nat) (he : ws[q0]? = some (a, .inr (7, fs))) (hv : fs[0]? = some v) (hdg : decode cc pc = .ok (.getfield 145, 3))
    (kk : W p l e R s m args below meth c H locs cells slots Q (F0 m (pc + 3) ls (v :: rest))) : W p l e R s m args below meth c H locs cells slots Q (F0 m pc ls (.ref a :: rest)) :=
  va_getN (C := RX7) (T := TX7) (N := 4) (Ts := wl ⟨RX11, nm, ds⟩ cc n r) C.1 C.2.1 C.2.2.2.2.1 (fun w h => List.mem_cons_of_mem _ (inT7 w h)) C.2.2.2.1 C.2.2.2.2.2.1 hP q0 he rfl 0 (by decide) (va_Nw.use rfl (C.2.2.2.2.2.2.2.2.1 _ q153)) (fun _ h9 => h9) hv hdg kk
theorem K_RX11_169 : KS RX11 169 yX11_exchange cX11_exchange 6 (some .int) 5 := ⟨Tg_mem 720 (by decide +kernel) (by decide +kernel), Tg_mem 90 (by decide +kernel) (by decide +kernel), Tg_mem 718 (by decide +kernel) (by decide +kernel), Tg_mem 719 (by decide +kernel) (by decide +kernel), by decide +kernel⟩
theorem q411 : Cond.fieldLink RX11 49 "SnowForSummer" "real" "LSnowForSummer$Walk;" ∈ Tg := Tg_mem 411 (by decide +kernel) (by decide +kernel)
theorem gf_RX11_49 {p : Program} {l : Launch} {e : Env} {R : Room} {s : State} {m : MethodId} {args : Array Value} {below : List Frame} {meth : Method} {c : Code} {H : Heap} {locs : List Loc} {cells slots : Nat} {Q : State → Prop} {E : ENV} {cc : ByteArray} {n : Nat} {r : Option FieldType} {pc : Nat} {ls : Array Slot} {rest : List Value} {a : Nat} {ws : va_W} {nm ds : String} {fs : List Value} {A : Nat → Prop} {v : Value} (C : Cx E A ⟨RX11, nm, ds⟩ cc n r p s m args meth c) (hP : va_P E.1 classes ws H) (q0 : Nat) (he : ws[q0]? = some (a, .inr (11, fs))) (hv : fs[5]? = some v) (hdg : decode cc pc = .ok (.getfield 49, 3))
    (kk : W p l e R s m args below meth c H locs cells slots Q (F0 m (pc + 3) ls (v :: rest))) : W p l e R s m args below meth c H locs cells slots Q (F0 m pc ls (.ref a :: rest)) :=
  va_get (C := RX11) (T := TX11) (N := 18) (Ts := wl ⟨RX11, nm, ds⟩ cc n r) C.1 C.2.1 C.2.2.2.2.1 (fun w h => List.mem_cons_of_mem _ (inT11 w h)) C.2.2.2.1 C.2.2.2.2.2.1 hP q0 he rfl 5 (by decide) (C.2.2.2.2.1 _ (List.mem_cons_of_mem _ q411)) (fun _ h9 => h9) hv hdg kk
theorem q276 : Cond.fieldLinkNest RX11 148 "SnowForSummer$Walk" "state" "LSnowForSummer$State;" "SnowForSummer" ∈ NL := NL_mem 276 (by decide +kernel) (by decide +kernel)
theorem gf_RX11_148 {p : Program} {l : Launch} {e : Env} {R : Room} {s : State} {m : MethodId} {args : Array Value} {below : List Frame} {meth : Method} {c : Code} {H : Heap} {locs : List Loc} {cells slots : Nat} {Q : State → Prop} {E : ENV} {cc : ByteArray} {n : Nat} {r : Option FieldType} {pc : Nat} {ls : Array Slot} {rest : List Value} {a : Nat} {ws : va_W} {nm ds : String} {fs : List Value} {A : Nat → Prop} {v : Value} (C : Cx E A ⟨RX11, nm, ds⟩ cc n r p s m args meth c) (hP : va_P E.1 classes ws H) (q0 : Nat) (he : ws[q0]? = some (a, .inr (9, fs))) (hv : fs[3]? = some v) (hdg : decode cc pc = .ok (.getfield 148, 3))
    (kk : W p l e R s m args below meth c H locs cells slots Q (F0 m (pc + 3) ls (v :: rest))) : W p l e R s m args below meth c H locs cells slots Q (F0 m pc ls (.ref a :: rest)) :=
  va_getN (C := RX9) (T := TX9) (N := 9) (Ts := wl ⟨RX11, nm, ds⟩ cc n r) C.1 C.2.1 C.2.2.2.2.1 (fun w h => List.mem_cons_of_mem _ (inT9 w h)) C.2.2.2.1 C.2.2.2.2.2.1 hP q0 he rfl 3 (by decide) (va_Nw.use rfl (C.2.2.2.2.2.2.2.2.1 _ q276)) (fun _ h9 => h9) hv hdg kk
theorem q252 : Cond.fieldLinkNest RX11 151 "SnowForSummer$State" "snow" "[I" "SnowForSummer" ∈ NL := NL_mem 252 (by decide +kernel) (by decide +kernel)
theorem gf_RX11_151 {p : Program} {l : Launch} {e : Env} {R : Room} {s : State} {m : MethodId} {args : Array Value} {below : List Frame} {meth : Method} {c : Code} {H : Heap} {locs : List Loc} {cells slots : Nat} {Q : State → Prop} {E : ENV} {cc : ByteArray} {n : Nat} {r : Option FieldType} {pc : Nat} {ls : Array Slot} {rest : List Value} {a : Nat} {ws : va_W} {nm ds : String} {fs : List Value} {A : Nat → Prop} {v : Value} (C : Cx E A ⟨RX11, nm, ds⟩ cc n r p s m args meth c) (hP : va_P E.1 classes ws H) (q0 : Nat) (he : ws[q0]? = some (a, .inr (5, fs))) (hv : fs[0]? = some v) (hdg : decode cc pc = .ok (.getfield 151, 3))
    (kk : W p l e R s m args below meth c H locs cells slots Q (F0 m (pc + 3) ls (v :: rest))) : W p l e R s m args below meth c H locs cells slots Q (F0 m pc ls (.ref a :: rest)) :=
  va_getN (C := RX5) (T := TX5) (N := 4) (Ts := wl ⟨RX11, nm, ds⟩ cc n r) C.1 C.2.1 C.2.2.2.2.1 (fun w h => List.mem_cons_of_mem _ (inT5 w h)) C.2.2.2.1 C.2.2.2.2.2.1 hP q0 he rfl 0 (by decide) (va_Nw.use rfl (C.2.2.2.2.2.2.2.2.1 _ q252)) (fun _ h9 => h9) hv hdg kk
theorem q255 : Cond.fieldLinkNest RX11 154 "SnowForSummer$State" "path" "[I" "SnowForSummer" ∈ NL := NL_mem 255 (by decide +kernel) (by decide +kernel)
theorem gf_RX11_154 {p : Program} {l : Launch} {e : Env} {R : Room} {s : State} {m : MethodId} {args : Array Value} {below : List Frame} {meth : Method} {c : Code} {H : Heap} {locs : List Loc} {cells slots : Nat} {Q : State → Prop} {E : ENV} {cc : ByteArray} {n : Nat} {r : Option FieldType} {pc : Nat} {ls : Array Slot} {rest : List Value} {a : Nat} {ws : va_W} {nm ds : String} {fs : List Value} {A : Nat → Prop} {v : Value} (C : Cx E A ⟨RX11, nm, ds⟩ cc n r p s m args meth c) (hP : va_P E.1 classes ws H) (q0 : Nat) (he : ws[q0]? = some (a, .inr (5, fs))) (hv : fs[1]? = some v) (hdg : decode cc pc = .ok (.getfield 154, 3))
    (kk : W p l e R s m args below meth c H locs cells slots Q (F0 m (pc + 3) ls (v :: rest))) : W p l e R s m args below meth c H locs cells slots Q (F0 m pc ls (.ref a :: rest)) :=
  va_getN (C := RX5) (T := TX5) (N := 4) (Ts := wl ⟨RX11, nm, ds⟩ cc n r) C.1 C.2.1 C.2.2.2.2.1 (fun w h => List.mem_cons_of_mem _ (inT5 w h)) C.2.2.2.1 C.2.2.2.2.2.1 hP q0 he rfl 1 (by decide) (va_Nw.use rfl (C.2.2.2.2.2.2.2.2.1 _ q255)) (fun _ h9 => h9) hv hdg kk
theorem q156 : Cond.fieldLinkNest RX11 157 "SnowForSummer$Town" "below" "[I" "SnowForSummer" ∈ NL := NL_mem 156 (by decide +kernel) (by decide +kernel)
theorem gf_RX11_157 {p : Program} {l : Launch} {e : Env} {R : Room} {s : State} {m : MethodId} {args : Array Value} {below : List Frame} {meth : Method} {c : Code} {H : Heap} {locs : List Loc} {cells slots : Nat} {Q : State → Prop} {E : ENV} {cc : ByteArray} {n : Nat} {r : Option FieldType} {pc : Nat} {ls : Array Slot} {rest : List Value} {a : Nat} {ws : va_W} {nm ds : String} {fs : List Value} {A : Nat → Prop} {v : Value} (C : Cx E A ⟨RX11, nm, ds⟩ cc n r p s m args meth c) (hP : va_P E.1 classes ws H) (q0 : Nat) (he : ws[q0]? = some (a, .inr (7, fs))) (hv : fs[1]? = some v) (hdg : decode cc pc = .ok (.getfield 157, 3))
    (kk : W p l e R s m args below meth c H locs cells slots Q (F0 m (pc + 3) ls (v :: rest))) : W p l e R s m args below meth c H locs cells slots Q (F0 m pc ls (.ref a :: rest)) :=
  va_getN (C := RX7) (T := TX7) (N := 4) (Ts := wl ⟨RX11, nm, ds⟩ cc n r) C.1 C.2.1 C.2.2.2.2.1 (fun w h => List.mem_cons_of_mem _ (inT7 w h)) C.2.2.2.1 C.2.2.2.2.2.1 hP q0 he rfl 1 (by decide) (va_Nw.use rfl (C.2.2.2.2.2.2.2.2.1 _ q156)) (fun _ h9 => h9) hv hdg kk
theorem q158 : Cond.fieldLinkNest RX11 160 "SnowForSummer$Town" "hay" "[I" "SnowForSummer" ∈ NL := NL_mem 158 (by decide +kernel) (by decide +kernel)
theorem gf_RX11_160 {p : Program} {l : Launch} {e : Env} {R : Room} {s : State} {m : MethodId} {args : Array Value} {below : List Frame} {meth : Method} {c : Code} {H : Heap} {locs : List Loc} {cells slots : Nat} {Q : State → Prop} {E : ENV} {cc : ByteArray} {n : Nat} {r : Option FieldType} {pc : Nat} {ls : Array Slot} {rest : List Value} {a : Nat} {ws : va_W} {nm ds : String} {fs : List Value} {A : Nat → Prop} {v : Value} (C : Cx E A ⟨RX11, nm, ds⟩ cc n r p s m args meth c) (hP : va_P E.1 classes ws H) (q0 : Nat) (he : ws[q0]? = some (a, .inr (7, fs))) (hv : fs[2]? = some v) (hdg : decode cc pc = .ok (.getfield 160, 3))
    (kk : W p l e R s m args below meth c H locs cells slots Q (F0 m (pc + 3) ls (v :: rest))) : W p l e R s m args below meth c H locs cells slots Q (F0 m pc ls (.ref a :: rest)) :=
  va_getN (C := RX7) (T := TX7) (N := 4) (Ts := wl ⟨RX11, nm, ds⟩ cc n r) C.1 C.2.1 C.2.2.2.2.1 (fun w h => List.mem_cons_of_mem _ (inT7 w h)) C.2.2.2.1 C.2.2.2.2.2.1 hP q0 he rfl 2 (by decide) (va_Nw.use rfl (C.2.2.2.2.2.2.2.2.1 _ q158)) (fun _ h9 => h9) hv hdg kk
theorem dX11_set_0 : decode cX11_set 0 = .ok (.aload_n 0, 1) := by decide +kernel
theorem dX11_set_1 : decode cX11_set 1 = .ok (.getfield 19, 3) := by decide +kernel
theorem dX11_set_4 : decode cX11_set 4 = .ok (.iload_n 1, 1) := by decide +kernel
theorem dX11_set_5 : decode cX11_set 5 = .ok (.invokevirtual 139, 3) := by decide +kernel
theorem dX11_set_8 : decode cX11_set 8 = .ok (.ifCond .ne 5, 3) := by decide +kernel
theorem dX11_set_11 : decode cX11_set 11 = .ok (.iconst (-1), 1) := by decide +kernel
theorem dX11_set_12 : decode cX11_set 12 = .ok (.ireturn, 1) := by decide +kernel
theorem dX11_set_13 : decode cX11_set 13 = .ok (.iload_n 2, 1) := by decide +kernel
theorem dX11_set_14 : decode cX11_set 14 = .ok (.tableswitch 178 0 6 #[42, 58, 80, 104, 124, 142, 162], 42) := by decide +kernel
theorem dX11_set_56 : decode cX11_set 56 = .ok (.aload_n 0, 1) := by decide +kernel
theorem dX11_set_57 : decode cX11_set 57 = .ok (.getfield 19, 3) := by decide +kernel
theorem dX11_set_60 : decode cX11_set 60 = .ok (.getfield 145, 3) := by decide +kernel
theorem dX11_set_63 : decode cX11_set 63 = .ok (.iload_n 1, 1) := by decide +kernel
theorem dX11_set_64 : decode cX11_set 64 = .ok (.iload_n 3, 1) := by decide +kernel
theorem dX11_set_65 : decode cX11_set 65 = .ok (.iconst 1, 1) := by decide +kernel
theorem dX11_set_66 : decode cX11_set 66 = .ok (.bipush 99, 2) := by decide +kernel
theorem dX11_set_68 : decode cX11_set 68 = .ok (.invokestatic 169, 3) := by decide +kernel
theorem dX11_set_71 : decode cX11_set 71 = .ok (.ireturn, 1) := by decide +kernel
theorem dX11_set_72 : decode cX11_set 72 = .ok (.aload_n 0, 1) := by decide +kernel
theorem dX11_set_73 : decode cX11_set 73 = .ok (.getfield 49, 3) := by decide +kernel
theorem dX11_set_76 : decode cX11_set 76 = .ok (.getfield 148, 3) := by decide +kernel
theorem dX11_set_79 : decode cX11_set 79 = .ok (.getfield 151, 3) := by decide +kernel
theorem dX11_set_82 : decode cX11_set 82 = .ok (.iconst 2, 1) := by decide +kernel
theorem dX11_set_83 : decode cX11_set 83 = .ok (.iload_n 1, 1) := by decide +kernel
theorem dX11_set_84 : decode cX11_set 84 = .ok (.imul, 1) := by decide +kernel
theorem dX11_set_85 : decode cX11_set 85 = .ok (.iload_n 3, 1) := by decide +kernel
theorem dX11_set_86 : decode cX11_set 86 = .ok (.iconst 0, 1) := by decide +kernel
theorem dX11_set_87 : decode cX11_set 87 = .ok (.sipush 999, 3) := by decide +kernel
theorem dX11_set_90 : decode cX11_set 90 = .ok (.invokestatic 169, 3) := by decide +kernel
theorem dX11_set_93 : decode cX11_set 93 = .ok (.ireturn, 1) := by decide +kernel
theorem dX11_set_94 : decode cX11_set 94 = .ok (.aload_n 0, 1) := by decide +kernel
theorem dX11_set_95 : decode cX11_set 95 = .ok (.getfield 49, 3) := by decide +kernel
theorem dX11_set_98 : decode cX11_set 98 = .ok (.getfield 148, 3) := by decide +kernel
theorem dX11_set_101 : decode cX11_set 101 = .ok (.getfield 151, 3) := by decide +kernel
theorem dX11_set_104 : decode cX11_set 104 = .ok (.iconst 2, 1) := by decide +kernel
theorem dX11_set_105 : decode cX11_set 105 = .ok (.iload_n 1, 1) := by decide +kernel
theorem dX11_set_106 : decode cX11_set 106 = .ok (.imul, 1) := by decide +kernel
theorem dX11_set_107 : decode cX11_set 107 = .ok (.iconst 1, 1) := by decide +kernel
theorem dX11_set_108 : decode cX11_set 108 = .ok (.iadd, 1) := by decide +kernel
theorem dX11_set_109 : decode cX11_set 109 = .ok (.iload_n 3, 1) := by decide +kernel
theorem dX11_set_110 : decode cX11_set 110 = .ok (.iconst 0, 1) := by decide +kernel
theorem dX11_set_111 : decode cX11_set 111 = .ok (.sipush 999, 3) := by decide +kernel
theorem dX11_set_114 : decode cX11_set 114 = .ok (.invokestatic 169, 3) := by decide +kernel
theorem dX11_set_117 : decode cX11_set 117 = .ok (.ireturn, 1) := by decide +kernel
theorem dX11_set_118 : decode cX11_set 118 = .ok (.aload_n 0, 1) := by decide +kernel
theorem dX11_set_119 : decode cX11_set 119 = .ok (.getfield 49, 3) := by decide +kernel
theorem dX11_set_122 : decode cX11_set 122 = .ok (.getfield 148, 3) := by decide +kernel
theorem dX11_set_125 : decode cX11_set 125 = .ok (.getfield 154, 3) := by decide +kernel
theorem dX11_set_128 : decode cX11_set 128 = .ok (.iload_n 1, 1) := by decide +kernel
theorem dX11_set_129 : decode cX11_set 129 = .ok (.iload_n 3, 1) := by decide +kernel
theorem dX11_set_130 : decode cX11_set 130 = .ok (.iconst 0, 1) := by decide +kernel
theorem dX11_set_131 : decode cX11_set 131 = .ok (.sipush 999, 3) := by decide +kernel
theorem dX11_set_134 : decode cX11_set 134 = .ok (.invokestatic 169, 3) := by decide +kernel
theorem dX11_set_137 : decode cX11_set 137 = .ok (.ireturn, 1) := by decide +kernel
theorem dX11_set_138 : decode cX11_set 138 = .ok (.aload_n 0, 1) := by decide +kernel
theorem dX11_set_139 : decode cX11_set 139 = .ok (.getfield 19, 3) := by decide +kernel
theorem dX11_set_142 : decode cX11_set 142 = .ok (.getfield 157, 3) := by decide +kernel
theorem dX11_set_145 : decode cX11_set 145 = .ok (.iconst 2, 1) := by decide +kernel
theorem dX11_set_146 : decode cX11_set 146 = .ok (.iload_n 1, 1) := by decide +kernel
theorem dX11_set_147 : decode cX11_set 147 = .ok (.imul, 1) := by decide +kernel
theorem dX11_set_148 : decode cX11_set 148 = .ok (.iload_n 3, 1) := by decide +kernel
theorem dX11_set_149 : decode cX11_set 149 = .ok (.iconst 0, 1) := by decide +kernel
theorem dX11_set_150 : decode cX11_set 150 = .ok (.bipush 6, 2) := by decide +kernel
theorem dX11_set_152 : decode cX11_set 152 = .ok (.invokestatic 169, 3) := by decide +kernel
theorem dX11_set_155 : decode cX11_set 155 = .ok (.ireturn, 1) := by decide +kernel
theorem dX11_set_156 : decode cX11_set 156 = .ok (.aload_n 0, 1) := by decide +kernel
theorem dX11_set_157 : decode cX11_set 157 = .ok (.getfield 19, 3) := by decide +kernel
theorem dX11_set_160 : decode cX11_set 160 = .ok (.getfield 157, 3) := by decide +kernel
theorem dX11_set_163 : decode cX11_set 163 = .ok (.iconst 2, 1) := by decide +kernel
theorem dX11_set_164 : decode cX11_set 164 = .ok (.iload_n 1, 1) := by decide +kernel
theorem dX11_set_165 : decode cX11_set 165 = .ok (.imul, 1) := by decide +kernel
theorem dX11_set_166 : decode cX11_set 166 = .ok (.iconst 1, 1) := by decide +kernel
theorem dX11_set_167 : decode cX11_set 167 = .ok (.iadd, 1) := by decide +kernel
theorem dX11_set_168 : decode cX11_set 168 = .ok (.iload_n 3, 1) := by decide +kernel
theorem dX11_set_169 : decode cX11_set 169 = .ok (.iconst 0, 1) := by decide +kernel
theorem dX11_set_170 : decode cX11_set 170 = .ok (.bipush 6, 2) := by decide +kernel
theorem dX11_set_172 : decode cX11_set 172 = .ok (.invokestatic 169, 3) := by decide +kernel
theorem dX11_set_175 : decode cX11_set 175 = .ok (.ireturn, 1) := by decide +kernel
theorem dX11_set_176 : decode cX11_set 176 = .ok (.aload_n 0, 1) := by decide +kernel
theorem dX11_set_177 : decode cX11_set 177 = .ok (.getfield 19, 3) := by decide +kernel
theorem dX11_set_180 : decode cX11_set 180 = .ok (.getfield 160, 3) := by decide +kernel
theorem dX11_set_183 : decode cX11_set 183 = .ok (.iload_n 1, 1) := by decide +kernel
theorem dX11_set_184 : decode cX11_set 184 = .ok (.iload_n 3, 1) := by decide +kernel
theorem dX11_set_185 : decode cX11_set 185 = .ok (.iconst 0, 1) := by decide +kernel
theorem dX11_set_186 : decode cX11_set 186 = .ok (.bipush 30, 2) := by decide +kernel
theorem dX11_set_188 : decode cX11_set 188 = .ok (.invokestatic 169, 3) := by decide +kernel
theorem dX11_set_191 : decode cX11_set 191 = .ok (.ireturn, 1) := by decide +kernel
theorem dX11_set_192 : decode cX11_set 192 = .ok (.iconst (-1), 1) := by decide +kernel
theorem dX11_set_193 : decode cX11_set 193 = .ok (.ireturn, 1) := by decide +kernel
def WX11_set (E : ENV) (q0 : Nat) (q0_text : Nat) (q0_town : Nat) (q0_weather : Nat) (q0_rule : Nat) (q0_acts : Nat) (q0_real : Nat) (q0_trial : Nat) (q0_round : Nat) (q0_nights : Nat) (q0_before : Nat) (q0_history : Nat) (q0_kept : Nat) (q0_keptHouses : Nat) (q0_shortest : Nat) (q0_tracks : Nat) (q0_tally : Nat) (q0_told : Nat) (q0_town_hold : Nat) (q0_town_below : Nat) (q0_town_hay : Nat) (q0_real_state : Nat) (q0_real_owedBy : Nat) (q0_real_state_snow : Nat) (q0_real_state_path : Nat) (q0_real_state_debt : Nat) (i_toldCount : Int32) (i_town_houses : Int32) (a_town_hay : Nat → Int32) (a_town_below : Nat → Int32) (i_real_owed : Int32) (i_real_slides : Int32) (i_real_struck : Int32) (i_real_slid : Int32) (i_real_state_now : Int32) (a_real_state_path : Nat → Int32) (a_real_state_snow : Nat → Int32) (a_town_hold : Nat → Int32) : va_W := [(q0, .inr (11, [.ref q0_text, .ref q0_town, .ref q0_weather, .ref q0_rule, .ref q0_acts, .ref q0_real, .ref q0_trial, .ref q0_round, .ref q0_nights, .ref q0_before, .ref q0_history, .ref q0_kept, .ref q0_keptHouses, .ref q0_shortest, .ref q0_tracks, .ref q0_tally, .ref q0_told, .int i_toldCount])), (q0_town, .inr (7, [.ref q0_town_hold, .ref q0_town_below, .ref q0_town_hay, .int i_town_houses])), (q0_town_hay, .inl (E.2.1, 7, .inl a_town_hay)), (q0_town_below, .inl (E.2.1, 14, .inl a_town_below)), (q0_real, .inr (9, [.ref q0_town, .ref q0_weather, .ref q0_rule, .ref q0_real_state, .ref q0_real_owedBy, .int i_real_owed, .int i_real_slides, .int i_real_struck, .int i_real_slid])), (q0_real_state, .inr (5, [.ref q0_real_state_snow, .ref q0_real_state_path, .ref q0_real_state_debt, .int i_real_state_now])), (q0_real_state_path, .inl (E.2.1, 7, .inl a_real_state_path)), (q0_real_state_snow, .inl (E.2.1, 14, .inl a_real_state_snow)), (q0_town_hold, .inl (E.2.1, 7, .inl a_town_hold))]
set_option maxHeartbeats 4000000 in
set_option maxRecDepth 20000 in
theorem kX11_set (l : Launch) (E : ENV) (q0 : Nat) (q0_text : Nat) (q0_town : Nat) (q0_weather : Nat) (q0_rule : Nat) (q0_acts : Nat) (q0_real : Nat) (q0_trial : Nat) (q0_round : Nat) (q0_nights : Nat) (q0_before : Nat) (q0_history : Nat) (q0_kept : Nat) (q0_keptHouses : Nat) (q0_shortest : Nat) (q0_tracks : Nat) (q0_tally : Nat) (q0_told : Nat) (q0_town_hold : Nat) (q0_town_below : Nat) (q0_town_hay : Nat) (q0_real_state : Nat) (q0_real_owedBy : Nat) (q0_real_state_snow : Nat) (q0_real_state_path : Nat) (q0_real_state_debt : Nat) (i_toldCount : Int32) (i_town_houses : Int32) (a_town_hay : Nat → Int32) (a_town_below : Nat → Int32) (i_real_owed : Int32) (i_real_slides : Int32) (i_real_struck : Int32) (i_real_slid : Int32) (i_real_state_now : Int32) (a_real_state_path : Nat → Int32) (a_real_state_snow : Nat → Int32) (a_town_hold : Nat → Int32) (p1 : Int32) (p2 : Int32) (p3 : Int32) (o9 : Int32 × (Nat → Int32) × (Nat → Int32) × (Nat → Int32) × (Nat → Int32) × (Nat → Int32)) (hf : fX11_set i_town_houses a_town_hay a_town_below a_real_state_path a_real_state_snow a_town_hold p1 p2 p3 = some o9) : CI l E yX11_set cX11_set 4 (some .int) 2 [.ref q0, .int p1, .int p2, .int p3] (WX11_set E q0 q0_text q0_town q0_weather q0_rule q0_acts q0_real q0_trial q0_round q0_nights q0_before q0_history q0_kept q0_keptHouses q0_shortest q0_tracks q0_tally q0_told q0_town_hold q0_town_below q0_town_hay q0_real_state q0_real_owedBy q0_real_state_snow q0_real_state_path q0_real_state_debt i_toldCount i_town_houses a_town_hay a_town_below i_real_owed i_real_slides i_real_struck i_real_slid i_real_state_now a_real_state_path a_real_state_snow a_town_hold) (WX11_set E q0 q0_text q0_town q0_weather q0_rule q0_acts q0_real q0_trial q0_round q0_nights q0_before q0_history q0_kept q0_keptHouses q0_shortest q0_tracks q0_tally q0_told q0_town_hold q0_town_below q0_town_hay q0_real_state q0_real_owedBy q0_real_state_snow q0_real_state_path q0_real_state_debt i_toldCount i_town_houses o9.2.1 o9.2.2.1 i_real_owed i_real_slides i_real_struck i_real_slid i_real_state_now o9.2.2.2.1 o9.2.2.2.2.1 o9.2.2.2.2.2) o9.1 := by
  refine begI (by decide +kernel) (Nat.le_of_ble_eq_true rfl) ?_
  intro p e s m args below meth c A Q C hA hret
  have hx := C.1
  have hb := C.2.1
  intro H locs ls hl hP hD hS
  have hl : lv_has ls 4 [(0, .ref q0), (1, .int p1), (2, .int p2), (3, .int p3)] := hl
  unfold fX11_set at hf
  refine lv_aload_n hx hb dX11_set_0 rfl (lv_at hl 0 rfl) ?_
  refine gf_RX11_19 C hP 0 rfl rfl dX11_set_1 ?_
  refine lv_iload_n hx hb dX11_set_4 rfl (lv_at hl 1 rfl) ?_
  obtain ⟨o1, hg2, hf⟩ := bd_some hf
  refine k_VI2 (As := [.int p1]) C K_RX11_139 (Nat.le_of_ble_eq_true rfl) (Nat.le_of_ble_eq_true rfl) (kX7_has l E q0_town q0_town_hold q0_town_below q0_town_hay i_town_houses p1 o1 hg2) [1] rfl rfl rfl (ci := 7) rfl rfl (q0 := 0) rfl hP hD hS hA hl.1 (Nat.le_of_ble_eq_true rfl) rfl dX11_set_5 (ws2 := (WX11_set E q0 q0_text q0_town q0_weather q0_rule q0_acts q0_real q0_trial q0_round q0_nights q0_before q0_history q0_kept q0_keptHouses q0_shortest q0_tracks q0_tally q0_told q0_town_hold q0_town_below q0_town_hay q0_real_state q0_real_owedBy q0_real_state_snow q0_real_state_path q0_real_state_debt i_toldCount i_town_houses a_town_hay a_town_below i_real_owed i_real_slides i_real_struck i_real_slid i_real_state_now a_real_state_path a_real_state_snow a_town_hold)) 9 [0, 2, 3, 4, 5, 6, 7, 8] rfl rfl rfl rfl (by decide +kernel) (fun H locs hP hD hS => ?_)
  refine lv_if_ne (tgt := 13) hx hb dX11_set_8 (by decide) (fun c3 => ?_) (fun c3 => ?_)
  · rw [if_neg c3] at hf
    refine lv_iload_n hx hb dX11_set_13 rfl (lv_at hl 2 rfl) ?_
    by_cases c4 : p2 = 0
    · rw [if_pos c4] at hf
      refine r_tsw C dX11_set_14 0 c4 (by decide) (by decide) (off := 42) (by decide) (tgt := 56) (by decide) ?_
      refine lv_aload_n hx hb dX11_set_56 rfl (lv_at hl 0 rfl) ?_
      refine gf_RX11_19 C hP 0 rfl rfl dX11_set_57 ?_
      refine gf_RX11_145 C hP 1 rfl rfl dX11_set_60 ?_
      refine lv_iload_n hx hb dX11_set_63 rfl (lv_at hl 1 rfl) ?_
      refine lv_iload_n hx hb dX11_set_64 rfl (lv_at hl 3 rfl) ?_
      refine lv_iconst (v := 1) hx hb dX11_set_65 (by decide) ?_
      refine lv_bipush (v := 99) hx hb dX11_set_66 (by decide) ?_
      obtain ⟨o5, hg6, hf⟩ := bd_some hf
      refine k_SI2 (As := [.ref q0_town_hold, .int p1, .int p3, .int 1, .int 99]) C K_RX11_169 (Nat.le_of_ble_eq_true rfl) (Nat.le_of_ble_eq_true rfl) (kX11_exchange l E q0_town_hold 7 a_town_hold p1 p3 1 99 o5 hg6) [8] rfl rfl rfl  hP hD hS hA hl.1 (Nat.le_of_ble_eq_true rfl) rfl dX11_set_68 (ws2 := (WX11_set E q0 q0_text q0_town q0_weather q0_rule q0_acts q0_real q0_trial q0_round q0_nights q0_before q0_history q0_kept q0_keptHouses q0_shortest q0_tracks q0_tally q0_told q0_town_hold q0_town_below q0_town_hay q0_real_state q0_real_owedBy q0_real_state_snow q0_real_state_path q0_real_state_debt i_toldCount i_town_houses a_town_hay a_town_below i_real_owed i_real_slides i_real_struck i_real_slid i_real_state_now a_real_state_path a_real_state_snow o5.2)) 9 [0, 1, 2, 3, 4, 5, 6, 7] rfl rfl rfl rfl (by decide +kernel) (fun H locs hP hD hS => ?_)
      have hj0 := Option.some.inj hf
      subst hj0
      exact hret _ _ _ _ dX11_set_71 rfl hP hD hS
    · rw [if_neg c4] at hf
      by_cases c7 : p2 = 1
      · rw [if_pos c7] at hf
        refine r_tsw C dX11_set_14 1 c7 (by decide) (by decide) (off := 58) (by decide) (tgt := 72) (by decide) ?_
        refine lv_aload_n hx hb dX11_set_72 rfl (lv_at hl 0 rfl) ?_
        refine gf_RX11_49 C hP 0 rfl rfl dX11_set_73 ?_
        refine gf_RX11_148 C hP 4 rfl rfl dX11_set_76 ?_
        refine gf_RX11_151 C hP 5 rfl rfl dX11_set_79 ?_
        refine lv_iconst (v := 2) hx hb dX11_set_82 (by decide) ?_
        refine lv_iload_n hx hb dX11_set_83 rfl (lv_at hl 1 rfl) ?_
        refine lv_imul hx hb dX11_set_84 ?_
        refine lv_iload_n hx hb dX11_set_85 rfl (lv_at hl 3 rfl) ?_
        refine lv_iconst (v := 0) hx hb dX11_set_86 (by decide) ?_
        refine lv_sipush (v := 999) hx hb dX11_set_87 (by decide) ?_
        obtain ⟨o8, hg9, hf⟩ := bd_some hf
        refine k_SI2 (As := [.ref q0_real_state_snow, .int ((2 * p1)), .int p3, .int 0, .int 999]) C K_RX11_169 (Nat.le_of_ble_eq_true rfl) (Nat.le_of_ble_eq_true rfl) (kX11_exchange l E q0_real_state_snow 14 a_real_state_snow ((2 * p1)) p3 0 999 o8 hg9) [7] rfl rfl rfl  hP hD hS hA hl.1 (Nat.le_of_ble_eq_true rfl) rfl dX11_set_90 (ws2 := (WX11_set E q0 q0_text q0_town q0_weather q0_rule q0_acts q0_real q0_trial q0_round q0_nights q0_before q0_history q0_kept q0_keptHouses q0_shortest q0_tracks q0_tally q0_told q0_town_hold q0_town_below q0_town_hay q0_real_state q0_real_owedBy q0_real_state_snow q0_real_state_path q0_real_state_debt i_toldCount i_town_houses a_town_hay a_town_below i_real_owed i_real_slides i_real_struck i_real_slid i_real_state_now a_real_state_path o8.2 a_town_hold)) 9 [0, 1, 2, 3, 4, 5, 6, 8] rfl rfl rfl rfl (by decide +kernel) (fun H locs hP hD hS => ?_)
        have hj0 := Option.some.inj hf
        subst hj0
        exact hret _ _ _ _ dX11_set_93 rfl hP hD hS
      · rw [if_neg c7] at hf
        by_cases c10 : p2 = 2
        · rw [if_pos c10] at hf
          refine r_tsw C dX11_set_14 2 c10 (by decide) (by decide) (off := 80) (by decide) (tgt := 94) (by decide) ?_
          refine lv_aload_n hx hb dX11_set_94 rfl (lv_at hl 0 rfl) ?_
          refine gf_RX11_49 C hP 0 rfl rfl dX11_set_95 ?_
          refine gf_RX11_148 C hP 4 rfl rfl dX11_set_98 ?_
          refine gf_RX11_151 C hP 5 rfl rfl dX11_set_101 ?_
          refine lv_iconst (v := 2) hx hb dX11_set_104 (by decide) ?_
          refine lv_iload_n hx hb dX11_set_105 rfl (lv_at hl 1 rfl) ?_
          refine lv_imul hx hb dX11_set_106 ?_
          refine lv_iconst (v := 1) hx hb dX11_set_107 (by decide) ?_
          refine lv_iadd hx hb dX11_set_108 ?_
          refine lv_iload_n hx hb dX11_set_109 rfl (lv_at hl 3 rfl) ?_
          refine lv_iconst (v := 0) hx hb dX11_set_110 (by decide) ?_
          refine lv_sipush (v := 999) hx hb dX11_set_111 (by decide) ?_
          obtain ⟨o11, hg12, hf⟩ := bd_some hf
          refine k_SI2 (As := [.ref q0_real_state_snow, .int ((((2 * p1)) + 1)), .int p3, .int 0, .int 999]) C K_RX11_169 (Nat.le_of_ble_eq_true rfl) (Nat.le_of_ble_eq_true rfl) (kX11_exchange l E q0_real_state_snow 14 a_real_state_snow ((((2 * p1)) + 1)) p3 0 999 o11 hg12) [7] rfl rfl rfl  hP hD hS hA hl.1 (Nat.le_of_ble_eq_true rfl) rfl dX11_set_114 (ws2 := (WX11_set E q0 q0_text q0_town q0_weather q0_rule q0_acts q0_real q0_trial q0_round q0_nights q0_before q0_history q0_kept q0_keptHouses q0_shortest q0_tracks q0_tally q0_told q0_town_hold q0_town_below q0_town_hay q0_real_state q0_real_owedBy q0_real_state_snow q0_real_state_path q0_real_state_debt i_toldCount i_town_houses a_town_hay a_town_below i_real_owed i_real_slides i_real_struck i_real_slid i_real_state_now a_real_state_path o11.2 a_town_hold)) 9 [0, 1, 2, 3, 4, 5, 6, 8] rfl rfl rfl rfl (by decide +kernel) (fun H locs hP hD hS => ?_)
          have hj0 := Option.some.inj hf
          subst hj0
          exact hret _ _ _ _ dX11_set_117 rfl hP hD hS
        · rw [if_neg c10] at hf
          by_cases c13 : p2 = 3
          · rw [if_pos c13] at hf
            refine r_tsw C dX11_set_14 3 c13 (by decide) (by decide) (off := 104) (by decide) (tgt := 118) (by decide) ?_
            refine lv_aload_n hx hb dX11_set_118 rfl (lv_at hl 0 rfl) ?_
            refine gf_RX11_49 C hP 0 rfl rfl dX11_set_119 ?_
            refine gf_RX11_148 C hP 4 rfl rfl dX11_set_122 ?_
            refine gf_RX11_154 C hP 5 rfl rfl dX11_set_125 ?_
            refine lv_iload_n hx hb dX11_set_128 rfl (lv_at hl 1 rfl) ?_
            refine lv_iload_n hx hb dX11_set_129 rfl (lv_at hl 3 rfl) ?_
            refine lv_iconst (v := 0) hx hb dX11_set_130 (by decide) ?_
            refine lv_sipush (v := 999) hx hb dX11_set_131 (by decide) ?_
            obtain ⟨o14, hg15, hf⟩ := bd_some hf
            refine k_SI2 (As := [.ref q0_real_state_path, .int p1, .int p3, .int 0, .int 999]) C K_RX11_169 (Nat.le_of_ble_eq_true rfl) (Nat.le_of_ble_eq_true rfl) (kX11_exchange l E q0_real_state_path 7 a_real_state_path p1 p3 0 999 o14 hg15) [6] rfl rfl rfl  hP hD hS hA hl.1 (Nat.le_of_ble_eq_true rfl) rfl dX11_set_134 (ws2 := (WX11_set E q0 q0_text q0_town q0_weather q0_rule q0_acts q0_real q0_trial q0_round q0_nights q0_before q0_history q0_kept q0_keptHouses q0_shortest q0_tracks q0_tally q0_told q0_town_hold q0_town_below q0_town_hay q0_real_state q0_real_owedBy q0_real_state_snow q0_real_state_path q0_real_state_debt i_toldCount i_town_houses a_town_hay a_town_below i_real_owed i_real_slides i_real_struck i_real_slid i_real_state_now o14.2 a_real_state_snow a_town_hold)) 9 [0, 1, 2, 3, 4, 5, 7, 8] rfl rfl rfl rfl (by decide +kernel) (fun H locs hP hD hS => ?_)
            have hj0 := Option.some.inj hf
            subst hj0
            exact hret _ _ _ _ dX11_set_137 rfl hP hD hS
          · rw [if_neg c13] at hf
            by_cases c16 : p2 = 4
            · rw [if_pos c16] at hf
              refine r_tsw C dX11_set_14 4 c16 (by decide) (by decide) (off := 124) (by decide) (tgt := 138) (by decide) ?_
              refine lv_aload_n hx hb dX11_set_138 rfl (lv_at hl 0 rfl) ?_
              refine gf_RX11_19 C hP 0 rfl rfl dX11_set_139 ?_
              refine gf_RX11_157 C hP 1 rfl rfl dX11_set_142 ?_
              refine lv_iconst (v := 2) hx hb dX11_set_145 (by decide) ?_
              refine lv_iload_n hx hb dX11_set_146 rfl (lv_at hl 1 rfl) ?_
              refine lv_imul hx hb dX11_set_147 ?_
              refine lv_iload_n hx hb dX11_set_148 rfl (lv_at hl 3 rfl) ?_
              refine lv_iconst (v := 0) hx hb dX11_set_149 (by decide) ?_
              refine lv_bipush (v := 6) hx hb dX11_set_150 (by decide) ?_
              obtain ⟨o17, hg18, hf⟩ := bd_some hf
              refine k_SI2 (As := [.ref q0_town_below, .int ((2 * p1)), .int p3, .int 0, .int 6]) C K_RX11_169 (Nat.le_of_ble_eq_true rfl) (Nat.le_of_ble_eq_true rfl) (kX11_exchange l E q0_town_below 14 a_town_below ((2 * p1)) p3 0 6 o17 hg18) [3] rfl rfl rfl  hP hD hS hA hl.1 (Nat.le_of_ble_eq_true rfl) rfl dX11_set_152 (ws2 := (WX11_set E q0 q0_text q0_town q0_weather q0_rule q0_acts q0_real q0_trial q0_round q0_nights q0_before q0_history q0_kept q0_keptHouses q0_shortest q0_tracks q0_tally q0_told q0_town_hold q0_town_below q0_town_hay q0_real_state q0_real_owedBy q0_real_state_snow q0_real_state_path q0_real_state_debt i_toldCount i_town_houses a_town_hay o17.2 i_real_owed i_real_slides i_real_struck i_real_slid i_real_state_now a_real_state_path a_real_state_snow a_town_hold)) 9 [0, 1, 2, 4, 5, 6, 7, 8] rfl rfl rfl rfl (by decide +kernel) (fun H locs hP hD hS => ?_)
              have hj0 := Option.some.inj hf
              subst hj0
              exact hret _ _ _ _ dX11_set_155 rfl hP hD hS
            · rw [if_neg c16] at hf
              by_cases c19 : p2 = 5
              · rw [if_pos c19] at hf
                refine r_tsw C dX11_set_14 5 c19 (by decide) (by decide) (off := 142) (by decide) (tgt := 156) (by decide) ?_
                refine lv_aload_n hx hb dX11_set_156 rfl (lv_at hl 0 rfl) ?_
                refine gf_RX11_19 C hP 0 rfl rfl dX11_set_157 ?_
                refine gf_RX11_157 C hP 1 rfl rfl dX11_set_160 ?_
                refine lv_iconst (v := 2) hx hb dX11_set_163 (by decide) ?_
                refine lv_iload_n hx hb dX11_set_164 rfl (lv_at hl 1 rfl) ?_
                refine lv_imul hx hb dX11_set_165 ?_
                refine lv_iconst (v := 1) hx hb dX11_set_166 (by decide) ?_
                refine lv_iadd hx hb dX11_set_167 ?_
                refine lv_iload_n hx hb dX11_set_168 rfl (lv_at hl 3 rfl) ?_
                refine lv_iconst (v := 0) hx hb dX11_set_169 (by decide) ?_
                refine lv_bipush (v := 6) hx hb dX11_set_170 (by decide) ?_
                obtain ⟨o20, hg21, hf⟩ := bd_some hf
                refine k_SI2 (As := [.ref q0_town_below, .int ((((2 * p1)) + 1)), .int p3, .int 0, .int 6]) C K_RX11_169 (Nat.le_of_ble_eq_true rfl) (Nat.le_of_ble_eq_true rfl) (kX11_exchange l E q0_town_below 14 a_town_below ((((2 * p1)) + 1)) p3 0 6 o20 hg21) [3] rfl rfl rfl  hP hD hS hA hl.1 (Nat.le_of_ble_eq_true rfl) rfl dX11_set_172 (ws2 := (WX11_set E q0 q0_text q0_town q0_weather q0_rule q0_acts q0_real q0_trial q0_round q0_nights q0_before q0_history q0_kept q0_keptHouses q0_shortest q0_tracks q0_tally q0_told q0_town_hold q0_town_below q0_town_hay q0_real_state q0_real_owedBy q0_real_state_snow q0_real_state_path q0_real_state_debt i_toldCount i_town_houses a_town_hay o20.2 i_real_owed i_real_slides i_real_struck i_real_slid i_real_state_now a_real_state_path a_real_state_snow a_town_hold)) 9 [0, 1, 2, 4, 5, 6, 7, 8] rfl rfl rfl rfl (by decide +kernel) (fun H locs hP hD hS => ?_)
                have hj0 := Option.some.inj hf
                subst hj0
                exact hret _ _ _ _ dX11_set_175 rfl hP hD hS
              · rw [if_neg c19] at hf
                by_cases c22 : p2 = 6
                · rw [if_pos c22] at hf
                  refine r_tsw C dX11_set_14 6 c22 (by decide) (by decide) (off := 162) (by decide) (tgt := 176) (by decide) ?_
                  refine lv_aload_n hx hb dX11_set_176 rfl (lv_at hl 0 rfl) ?_
                  refine gf_RX11_19 C hP 0 rfl rfl dX11_set_177 ?_
                  refine gf_RX11_160 C hP 1 rfl rfl dX11_set_180 ?_
                  refine lv_iload_n hx hb dX11_set_183 rfl (lv_at hl 1 rfl) ?_
                  refine lv_iload_n hx hb dX11_set_184 rfl (lv_at hl 3 rfl) ?_
                  refine lv_iconst (v := 0) hx hb dX11_set_185 (by decide) ?_
                  refine lv_bipush (v := 30) hx hb dX11_set_186 (by decide) ?_
                  obtain ⟨o23, hg24, hf⟩ := bd_some hf
                  refine k_SI2 (As := [.ref q0_town_hay, .int p1, .int p3, .int 0, .int 30]) C K_RX11_169 (Nat.le_of_ble_eq_true rfl) (Nat.le_of_ble_eq_true rfl) (kX11_exchange l E q0_town_hay 7 a_town_hay p1 p3 0 30 o23 hg24) [2] rfl rfl rfl  hP hD hS hA hl.1 (Nat.le_of_ble_eq_true rfl) rfl dX11_set_188 (ws2 := (WX11_set E q0 q0_text q0_town q0_weather q0_rule q0_acts q0_real q0_trial q0_round q0_nights q0_before q0_history q0_kept q0_keptHouses q0_shortest q0_tracks q0_tally q0_told q0_town_hold q0_town_below q0_town_hay q0_real_state q0_real_owedBy q0_real_state_snow q0_real_state_path q0_real_state_debt i_toldCount i_town_houses o23.2 a_town_below i_real_owed i_real_slides i_real_struck i_real_slid i_real_state_now a_real_state_path a_real_state_snow a_town_hold)) 9 [0, 1, 3, 4, 5, 6, 7, 8] rfl rfl rfl rfl (by decide +kernel) (fun H locs hP hD hS => ?_)
                  have hj0 := Option.some.inj hf
                  subst hj0
                  exact hret _ _ _ _ dX11_set_191 rfl hP hD hS
                · rw [if_neg c22] at hf
                  have hc4 : ¬ (p2 : Int32).toInt = 0 := toInt_ne c4
                  have hc7 : ¬ (p2 : Int32).toInt = 1 := toInt_ne c7
                  have hc10 : ¬ (p2 : Int32).toInt = 2 := toInt_ne c10
                  have hc13 : ¬ (p2 : Int32).toInt = 3 := toInt_ne c13
                  have hc16 : ¬ (p2 : Int32).toInt = 4 := toInt_ne c16
                  have hc19 : ¬ (p2 : Int32).toInt = 5 := toInt_ne c19
                  have hc22 : ¬ (p2 : Int32).toInt = 6 := toInt_ne c22
                  refine lv_tableOut hx hb dX11_set_14 (by omega) (tgt := 192) (by decide) ?_
                  refine lv_iconst (v := (-1)) hx hb dX11_set_192 (by decide) ?_
                  have hj0 := Option.some.inj hf
                  subst hj0
                  exact hret _ _ _ _ dX11_set_193 rfl hP hD hS
  · rw [if_pos c3] at hf
    refine lv_iconst (v := (-1)) hx hb dX11_set_11 (by decide) ?_
    have hj0 := Option.some.inj hf
    subst hj0
    exact hret _ _ _ _ dX11_set_12 rfl hP hD hS
theorem dX11_entryOf_0 : decode cX11_entryOf 0 = .ok (.iload_n 0, 1) := by decide +kernel
theorem dX11_entryOf_1 : decode cX11_entryOf 1 = .ok (.ifCond .ne 6, 3) := by decide +kernel
theorem dX11_entryOf_4 : decode cX11_entryOf 4 = .ok (.iload_n 1, 1) := by decide +kernel
theorem dX11_entryOf_5 : decode cX11_entryOf 5 = .ok (.i2b, 1) := by decide +kernel
theorem dX11_entryOf_6 : decode cX11_entryOf 6 = .ok (.ireturn, 1) := by decide +kernel
theorem dX11_entryOf_7 : decode cX11_entryOf 7 = .ok (.iload_n 0, 1) := by decide +kernel
theorem dX11_entryOf_8 : decode cX11_entryOf 8 = .ok (.iconst 1, 1) := by decide +kernel
theorem dX11_entryOf_9 : decode cX11_entryOf 9 = .ok (.if_icmp .ne 8, 3) := by decide +kernel
theorem dX11_entryOf_12 : decode cX11_entryOf 12 = .ok (.iload_n 1, 1) := by decide +kernel
theorem dX11_entryOf_13 : decode cX11_entryOf 13 = .ok (.i2s, 1) := by decide +kernel
theorem dX11_entryOf_14 : decode cX11_entryOf 14 = .ok (.goto 4, 3) := by decide +kernel
theorem dX11_entryOf_17 : decode cX11_entryOf 17 = .ok (.iload_n 1, 1) := by decide +kernel
theorem dX11_entryOf_18 : decode cX11_entryOf 18 = .ok (.ireturn, 1) := by decide +kernel
def WX11_entryOf (E : ENV)  : va_W := []
set_option maxHeartbeats 4000000 in
set_option maxRecDepth 20000 in
theorem kX11_entryOf (l : Launch) (E : ENV) (p0 : Int32) (p1 : Int32) (o9 : Int32) (hf : fX11_entryOf p0 p1 = some o9) : CI l E yX11_entryOf cX11_entryOf 2 (some .int) 0 [.int p0, .int p1] (WX11_entryOf E) (WX11_entryOf E) o9 := by
  refine begI (by decide +kernel) (Nat.le_of_ble_eq_true rfl) ?_
  intro p e s m args below meth c A Q C hA hret
  have hx := C.1
  have hb := C.2.1
  intro H locs ls hl hP hD hS
  have hl : lv_has ls 2 [(0, .int p0), (1, .int p1)] := hl
  unfold fX11_entryOf at hf
  refine lv_iload_n hx hb dX11_entryOf_0 rfl (lv_at hl 0 rfl) ?_
  refine lv_if_ne (tgt := 7) hx hb dX11_entryOf_1 (by decide) (fun c1 => ?_) (fun c1 => ?_)
  · rw [if_neg c1] at hf
    refine lv_iload_n hx hb dX11_entryOf_7 rfl (lv_at hl 0 rfl) ?_
    refine lv_iconst (v := 1) hx hb dX11_entryOf_8 (by decide) ?_
    refine lv_icmp_ne (tgt := 17) hx hb dX11_entryOf_9 (by decide) (fun c2 => ?_) (fun c2 => ?_)
    · rw [if_neg c2] at hf
      refine lv_iload_n hx hb dX11_entryOf_17 rfl (lv_at hl 1 rfl) ?_
      have hj0 := Option.some.inj hf
      subst hj0
      exact hret _ _ _ _ dX11_entryOf_18 rfl hP hD hS
    · rw [if_pos c2] at hf
      refine lv_iload_n hx hb dX11_entryOf_12 rfl (lv_at hl 1 rfl) ?_
      refine lv_i2s (v := ((p1).toInt16.toInt32)) hx hb dX11_entryOf_13 rfl ?_
      refine lv_goto (tgt := 18) hx hb dX11_entryOf_14 (by decide) ?_
      have hj0 := Option.some.inj hf
      subst hj0
      exact hret _ _ _ _ dX11_entryOf_18 rfl hP hD hS
  · rw [if_pos c1] at hf
    refine lv_iload_n hx hb dX11_entryOf_4 rfl (lv_at hl 1 rfl) ?_
    refine lv_i2b (v := ((p1).toInt8.toInt32)) hx hb dX11_entryOf_5 rfl ?_
    have hj0 := Option.some.inj hf
    subst hj0
    exact hret _ _ _ _ dX11_entryOf_6 rfl hP hD hS
theorem q161 : Cond.fieldLinkNest RX11 179 "SnowForSummer$Town" "houses" "I" "SnowForSummer" ∈ NL := NL_mem 161 (by decide +kernel) (by decide +kernel)
theorem gf_RX11_179 {p : Program} {l : Launch} {e : Env} {R : Room} {s : State} {m : MethodId} {args : Array Value} {below : List Frame} {meth : Method} {c : Code} {H : Heap} {locs : List Loc} {cells slots : Nat} {Q : State → Prop} {E : ENV} {cc : ByteArray} {n : Nat} {r : Option FieldType} {pc : Nat} {ls : Array Slot} {rest : List Value} {a : Nat} {ws : va_W} {nm ds : String} {fs : List Value} {A : Nat → Prop} {v : Value} (C : Cx E A ⟨RX11, nm, ds⟩ cc n r p s m args meth c) (hP : va_P E.1 classes ws H) (q0 : Nat) (he : ws[q0]? = some (a, .inr (7, fs))) (hv : fs[3]? = some v) (hdg : decode cc pc = .ok (.getfield 179, 3))
    (kk : W p l e R s m args below meth c H locs cells slots Q (F0 m (pc + 3) ls (v :: rest))) : W p l e R s m args below meth c H locs cells slots Q (F0 m pc ls (.ref a :: rest)) :=
  va_getN (C := RX7) (T := TX7) (N := 4) (Ts := wl ⟨RX11, nm, ds⟩ cc n r) C.1 C.2.1 C.2.2.2.2.1 (fun w h => List.mem_cons_of_mem _ (inT7 w h)) C.2.2.2.1 C.2.2.2.2.2.1 hP q0 he rfl 3 (by decide) (va_Nw.use rfl (C.2.2.2.2.2.2.2.2.1 _ q161)) (fun _ h9 => h9) hv hdg kk
theorem q731 : Cond.methodLink RX11 186 Lib.Math.min.name ∈ Tg := Tg_mem 731 (by decide +kernel) (by decide +kernel)
theorem q732 : Cond.methodLink RX11 191 Lib.Math.max.name ∈ Tg := Tg_mem 732 (by decide +kernel) (by decide +kernel)
theorem K_RX11_183 : KS RX11 183 yX11_entryOf cX11_entryOf 2 (some .int) 2 := ⟨Tg_mem 730 (by decide +kernel) (by decide +kernel), Tg_mem 90 (by decide +kernel) (by decide +kernel), Tg_mem 728 (by decide +kernel) (by decide +kernel), Tg_mem 729 (by decide +kernel) (by decide +kernel), by decide +kernel⟩
theorem K_RX11_173 : KS RX11 173 yJ7_fill_53178 cJ7_fill_53178 4 none 2 := ⟨Tg_mem 727 (by decide +kernel) (by decide +kernel), Tg_mem 114 (by decide +kernel) (by decide +kernel), Tg_mem 725 (by decide +kernel) (by decide +kernel), Tg_mem 726 (by decide +kernel) (by decide +kernel), by decide +kernel⟩
