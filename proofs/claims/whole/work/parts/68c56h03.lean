theorem dX1_isChoice_0 : decode cX1_isChoice 0 = .ok (.aload_n 1, 1) := by decide +kernel
theorem dX1_isChoice_1 : decode cX1_isChoice 1 = .ok (.getfield 84, 3) := by decide +kernel
theorem dX1_isChoice_4 : decode cX1_isChoice 4 = .ok (.iload_n 2, 1) := by decide +kernel
theorem dX1_isChoice_5 : decode cX1_isChoice 5 = .ok (.iaload, 1) := by decide +kernel
theorem dX1_isChoice_6 : decode cX1_isChoice 6 = .ok (.ifCond .le 25, 3) := by decide +kernel
theorem dX1_isChoice_9 : decode cX1_isChoice 9 = .ok (.aload_n 0, 1) := by decide +kernel
theorem dX1_isChoice_10 : decode cX1_isChoice 10 = .ok (.getfield 31, 3) := by decide +kernel
theorem dX1_isChoice_13 : decode cX1_isChoice 13 = .ok (.iconst (-1), 1) := by decide +kernel
theorem dX1_isChoice_14 : decode cX1_isChoice 14 = .ok (.if_icmp .eq 13, 3) := by decide +kernel
theorem dX1_isChoice_17 : decode cX1_isChoice 17 = .ok (.iload_n 2, 1) := by decide +kernel
theorem dX1_isChoice_18 : decode cX1_isChoice 18 = .ok (.iconst 2, 1) := by decide +kernel
theorem dX1_isChoice_19 : decode cX1_isChoice 19 = .ok (.idiv, 1) := by decide +kernel
theorem dX1_isChoice_20 : decode cX1_isChoice 20 = .ok (.aload_n 0, 1) := by decide +kernel
theorem dX1_isChoice_21 : decode cX1_isChoice 21 = .ok (.getfield 31, 3) := by decide +kernel
theorem dX1_isChoice_24 : decode cX1_isChoice 24 = .ok (.if_icmp .ne 7, 3) := by decide +kernel
theorem dX1_isChoice_27 : decode cX1_isChoice 27 = .ok (.iconst 1, 1) := by decide +kernel
theorem dX1_isChoice_28 : decode cX1_isChoice 28 = .ok (.goto 4, 3) := by decide +kernel
theorem dX1_isChoice_31 : decode cX1_isChoice 31 = .ok (.iconst 0, 1) := by decide +kernel
theorem dX1_isChoice_32 : decode cX1_isChoice 32 = .ok (.ireturn, 1) := by decide +kernel
def WX1_isChoice (E : ENV) (q0 : Nat) (q0_walks : Nat) (q0_chosen : Nat) (q0_bestRow : Nat) (q1 : Nat) (q1_snow : Nat) (q1_path : Nat) (q1_debt : Nat) (i_house : Int32) (i_count : Int32) (i_inches : Int32) (i_fewest : Int32) (i_p1_now : Int32) (a_p1_snow : Nat → Int32) : va_W := [(q0, .inr (1, [.ref q0_walks, .ref q0_chosen, .ref q0_bestRow, .int i_house, .int i_count, .int i_inches, .int i_fewest])), (q1, .inr (5, [.ref q1_snow, .ref q1_path, .ref q1_debt, .int i_p1_now])), (q1_snow, .inl (E.2.1, 14, .inl a_p1_snow))]
set_option maxHeartbeats 4000000 in
set_option maxRecDepth 20000 in
theorem kX1_isChoice (l : Launch) (E : ENV) (q0 : Nat) (q0_walks : Nat) (q0_chosen : Nat) (q0_bestRow : Nat) (q1 : Nat) (q1_snow : Nat) (q1_path : Nat) (q1_debt : Nat) (i_house : Int32) (i_count : Int32) (i_inches : Int32) (i_fewest : Int32) (i_p1_now : Int32) (a_p1_snow : Nat → Int32) (p2 : Int32) (r9 : Int32) (hf : fX1_isChoice i_house a_p1_snow p2 = some r9) : CI l E yX1_isChoice cX1_isChoice 3 (some .boolean) 0 [.ref q0, .ref q1, .int p2] (WX1_isChoice E q0 q0_walks q0_chosen q0_bestRow q1 q1_snow q1_path q1_debt i_house i_count i_inches i_fewest i_p1_now a_p1_snow) (WX1_isChoice E q0 q0_walks q0_chosen q0_bestRow q1 q1_snow q1_path q1_debt i_house i_count i_inches i_fewest i_p1_now a_p1_snow) r9 := by
  refine begI (by decide +kernel) (Nat.le_of_ble_eq_true rfl) ?_
  intro p e s m args below meth c A Q C hA hret
  have hx := C.1
  have hb := C.2.1
  intro H locs ls hl hP hD hS
  have hl : lv_has ls 3 [(0, .ref q0), (1, .ref q1), (2, .int p2)] := hl
  unfold fX1_isChoice at hf
  refine lv_aload_n hx hb dX1_isChoice_0 rfl (lv_at hl 1 rfl) ?_
  refine gf_RX1_84 C hP 1 rfl rfl dX1_isChoice_1 ?_
  refine lv_iload_n hx hb dX1_isChoice_4 rfl (lv_at hl 2 rfl) ?_
  obtain ⟨g1, hf⟩ := gd_some hf
  refine va_iald hx hb C.2.2.2.2.2.1 hP 2 0 rfl rfl (vin_in g1) dX1_isChoice_5 ?_
  refine lv_if_le (tgt := 31) hx hb dX1_isChoice_6 (by decide) (fun c2 => ?_) (fun c2 => ?_)
  · rw [if_pos c2] at hf
    refine lv_iconst (v := 0) hx hb dX1_isChoice_31 (by decide) ?_
    have hj0 := Option.some.inj hf
    subst hj0
    exact hret _ _ _ _ dX1_isChoice_32 rfl hP hD hS
  · rw [if_neg c2] at hf
    refine lv_aload_n hx hb dX1_isChoice_9 rfl (lv_at hl 0 rfl) ?_
    refine gf_RX1_31 C hP 0 rfl rfl dX1_isChoice_10 ?_
    refine lv_iconst (v := (-1)) hx hb dX1_isChoice_13 (by decide) ?_
    refine lv_icmp_eq (tgt := 27) hx hb dX1_isChoice_14 (by decide) (fun c3 => ?_) (fun c3 => ?_)
    · rw [if_pos c3] at hf
      refine lv_iconst (v := 1) hx hb dX1_isChoice_27 (by decide) ?_
      refine lv_goto (tgt := 32) hx hb dX1_isChoice_28 (by decide) ?_
      have hj0 := Option.some.inj hf
      subst hj0
      exact hret _ _ _ _ dX1_isChoice_32 rfl hP hD hS
    · rw [if_neg c3] at hf
      refine lv_iload_n hx hb dX1_isChoice_17 rfl (lv_at hl 2 rfl) ?_
      refine lv_iconst (v := 2) hx hb dX1_isChoice_18 (by decide) ?_
      refine lv_idiv hx hb dX1_isChoice_19 (by decide) ?_
      refine lv_aload_n hx hb dX1_isChoice_20 rfl (lv_at hl 0 rfl) ?_
      refine gf_RX1_31 C hP 0 rfl rfl dX1_isChoice_21 ?_
      refine lv_icmp_ne (tgt := 31) hx hb dX1_isChoice_24 (by decide) (fun c4 => ?_) (fun c4 => ?_)
      · rw [if_neg c4] at hf
        refine lv_iconst (v := 0) hx hb dX1_isChoice_31 (by decide) ?_
        have hj0 := Option.some.inj hf
        subst hj0
        exact hret _ _ _ _ dX1_isChoice_32 rfl hP hD hS
      · rw [if_pos c4] at hf
        refine lv_iconst (v := 1) hx hb dX1_isChoice_27 (by decide) ?_
        refine lv_goto (tgt := 32) hx hb dX1_isChoice_28 (by decide) ?_
        have hj0 := Option.some.inj hf
        subst hj0
        exact hret _ _ _ _ dX1_isChoice_32 rfl hP hD hS
theorem q322 : Cond.fieldLink RX1 35 "SnowForSummer$Hands" "count" "I" ∈ Tg := Tg_mem 322 (by decide +kernel) (by decide +kernel)
theorem gf_RX1_35 {p : Program} {l : Launch} {e : Env} {R : Room} {s : State} {m : MethodId} {args : Array Value} {below : List Frame} {meth : Method} {c : Code} {H : Heap} {locs : List Loc} {cells slots : Nat} {Q : State → Prop} {E : ENV} {cc : ByteArray} {n : Nat} {r : Option FieldType} {pc : Nat} {ls : Array Slot} {rest : List Value} {a : Nat} {ws : va_W} {nm ds : String} {fs : List Value} {A : Nat → Prop} {v : Value} (C : Cx E A ⟨RX1, nm, ds⟩ cc n r p s m args meth c) (hP : va_P E.1 classes ws H) (q0 : Nat) (he : ws[q0]? = some (a, .inr (1, fs))) (hv : fs[4]? = some v) (hdg : decode cc pc = .ok (.getfield 35, 3))
    (kk : W p l e R s m args below meth c H locs cells slots Q (F0 m (pc + 3) ls (v :: rest))) : W p l e R s m args below meth c H locs cells slots Q (F0 m pc ls (.ref a :: rest)) :=
  va_get (C := RX1) (T := TX1) (N := 7) (Ts := wl ⟨RX1, nm, ds⟩ cc n r) C.1 C.2.1 C.2.2.2.2.1 (fun w h => List.mem_cons_of_mem _ (inT1 w h)) C.2.2.2.1 C.2.2.2.2.2.1 hP q0 he rfl 4 (by decide) (C.2.2.2.2.1 _ (List.mem_cons_of_mem _ q322)) (fun _ h9 => h9) hv hdg kk
theorem q317 : Cond.fieldLink RX1 11 "SnowForSummer$Hands" "walks" "[LSnowForSummer$Walk;" ∈ Tg := Tg_mem 317 (by decide +kernel) (by decide +kernel)
theorem gf_RX1_11 {p : Program} {l : Launch} {e : Env} {R : Room} {s : State} {m : MethodId} {args : Array Value} {below : List Frame} {meth : Method} {c : Code} {H : Heap} {locs : List Loc} {cells slots : Nat} {Q : State → Prop} {E : ENV} {cc : ByteArray} {n : Nat} {r : Option FieldType} {pc : Nat} {ls : Array Slot} {rest : List Value} {a : Nat} {ws : va_W} {nm ds : String} {fs : List Value} {A : Nat → Prop} {v : Value} (C : Cx E A ⟨RX1, nm, ds⟩ cc n r p s m args meth c) (hP : va_P E.1 classes ws H) (q0 : Nat) (he : ws[q0]? = some (a, .inr (1, fs))) (hv : fs[0]? = some v) (hdg : decode cc pc = .ok (.getfield 11, 3))
    (kk : W p l e R s m args below meth c H locs cells slots Q (F0 m (pc + 3) ls (v :: rest))) : W p l e R s m args below meth c H locs cells slots Q (F0 m pc ls (.ref a :: rest)) :=
  va_get (C := RX1) (T := TX1) (N := 7) (Ts := wl ⟨RX1, nm, ds⟩ cc n r) C.1 C.2.1 C.2.2.2.2.1 (fun w h => List.mem_cons_of_mem _ (inT1 w h)) C.2.2.2.1 C.2.2.2.2.2.1 hP q0 he rfl 0 (by decide) (C.2.2.2.2.1 _ (List.mem_cons_of_mem _ q317)) (fun _ h9 => h9) hv hdg kk
theorem K_RX1_53 : KV RX1 53 yX1_costOf cX1_costOf 2 (some .int) 1 := ⟨Tg_mem 1116 (by decide +kernel) (by decide +kernel), Tg_mem 98 (by decide +kernel) (by decide +kernel), Tg_mem 1113 (by decide +kernel) (by decide +kernel), Tg_mem 1115 (by decide +kernel) (by decide +kernel), Tg_mem 33 (by decide +kernel) (by decide +kernel), by decide +kernel⟩
theorem q325 : Cond.fieldLink RX1 42 "SnowForSummer$Hands" "fewest" "I" ∈ Tg := Tg_mem 325 (by decide +kernel) (by decide +kernel)
theorem pf_RX1_42 {p : Program} {l : Launch} {e : Env} {R : Room} {s : State} {m : MethodId} {args : Array Value} {below : List Frame} {meth : Method} {c : Code} {H : Heap} {locs : List Loc} {cells slots : Nat} {Q : State → Prop} {E : ENV} {cc : ByteArray} {n : Nat} {r : Option FieldType} {pc : Nat} {ls : Array Slot} {rest : List Value} {a : Nat} {ws : va_W} {nm ds : String} {fs : List Value} {A : Nat → Prop} {H0 : Heap} {x : Int32} (C : Cx E A ⟨RX1, nm, ds⟩ cc n r p s m args meth c) (hP : va_P E.1 classes ws H) (hD : va_D A ws) (hS : va_S A H0 H locs) (q0 : Nat) (he : ws[q0]? = some (a, .inr (1, fs))) (hl : 6 < fs.length) (hdg : decode cc pc = .ok (.putfield 42, 3))
    (kk : ∀ (H1 : Heap) (locs1 : List Loc), va_P E.1 classes (ws.set q0 (a, .inr (1, fs.set 6 (.int x)))) H1 → va_D A (ws.set q0 (a, .inr (1, fs.set 6 (.int x)))) → va_S A H0 H1 locs1 → W p l e R s m args below meth c H1 locs1 cells slots Q (F0 m (pc + 3) ls rest)) : W p l e R s m args below meth c H locs cells slots Q (F0 m pc ls (.int x :: .ref a :: rest)) :=
  va_put (C := RX1) (T := TX1) (N := 7) (ty := .int) (Ts := wl ⟨RX1, nm, ds⟩ cc n r) C.1 C.2.1 C.2.2.2.2.1 (fun w h => List.mem_cons_of_mem _ (inT1 w h)) tyX1 tyX1_ok nmX1 C.2.2.2.1 C.2.2.2.2.2.1 hP hD hS q0 he rfl 6 (by decide) (C.2.2.2.2.1 _ (List.mem_cons_of_mem _ q325)) (fun _ h9 => h9) rfl (by decide +kernel) rfl rfl hl hdg kk
theorem q318 : Cond.fieldLink RX1 17 "SnowForSummer$Hands" "chosen" "[I" ∈ Tg := Tg_mem 318 (by decide +kernel) (by decide +kernel)
theorem gf_RX1_17 {p : Program} {l : Launch} {e : Env} {R : Room} {s : State} {m : MethodId} {args : Array Value} {below : List Frame} {meth : Method} {c : Code} {H : Heap} {locs : List Loc} {cells slots : Nat} {Q : State → Prop} {E : ENV} {cc : ByteArray} {n : Nat} {r : Option FieldType} {pc : Nat} {ls : Array Slot} {rest : List Value} {a : Nat} {ws : va_W} {nm ds : String} {fs : List Value} {A : Nat → Prop} {v : Value} (C : Cx E A ⟨RX1, nm, ds⟩ cc n r p s m args meth c) (hP : va_P E.1 classes ws H) (q0 : Nat) (he : ws[q0]? = some (a, .inr (1, fs))) (hv : fs[1]? = some v) (hdg : decode cc pc = .ok (.getfield 17, 3))
    (kk : W p l e R s m args below meth c H locs cells slots Q (F0 m (pc + 3) ls (v :: rest))) : W p l e R s m args below meth c H locs cells slots Q (F0 m pc ls (.ref a :: rest)) :=
  va_get (C := RX1) (T := TX1) (N := 7) (Ts := wl ⟨RX1, nm, ds⟩ cc n r) C.1 C.2.1 C.2.2.2.2.1 (fun w h => List.mem_cons_of_mem _ (inT1 w h)) C.2.2.2.1 C.2.2.2.2.2.1 hP q0 he rfl 1 (by decide) (C.2.2.2.2.1 _ (List.mem_cons_of_mem _ q318)) (fun _ h9 => h9) hv hdg kk
theorem q319 : Cond.fieldLink RX1 21 "SnowForSummer$Hands" "bestRow" "[I" ∈ Tg := Tg_mem 319 (by decide +kernel) (by decide +kernel)
theorem gf_RX1_21 {p : Program} {l : Launch} {e : Env} {R : Room} {s : State} {m : MethodId} {args : Array Value} {below : List Frame} {meth : Method} {c : Code} {H : Heap} {locs : List Loc} {cells slots : Nat} {Q : State → Prop} {E : ENV} {cc : ByteArray} {n : Nat} {r : Option FieldType} {pc : Nat} {ls : Array Slot} {rest : List Value} {a : Nat} {ws : va_W} {nm ds : String} {fs : List Value} {A : Nat → Prop} {v : Value} (C : Cx E A ⟨RX1, nm, ds⟩ cc n r p s m args meth c) (hP : va_P E.1 classes ws H) (q0 : Nat) (he : ws[q0]? = some (a, .inr (1, fs))) (hv : fs[2]? = some v) (hdg : decode cc pc = .ok (.getfield 21, 3))
    (kk : W p l e R s m args below meth c H locs cells slots Q (F0 m (pc + 3) ls (v :: rest))) : W p l e R s m args below meth c H locs cells slots Q (F0 m pc ls (.ref a :: rest)) :=
  va_get (C := RX1) (T := TX1) (N := 7) (Ts := wl ⟨RX1, nm, ds⟩ cc n r) C.1 C.2.1 C.2.2.2.2.1 (fun w h => List.mem_cons_of_mem _ (inT1 w h)) C.2.2.2.1 C.2.2.2.2.2.1 hP q0 he rfl 2 (by decide) (C.2.2.2.2.1 _ (List.mem_cons_of_mem _ q319)) (fun _ h9 => h9) hv hdg kk
theorem q1117 : Cond.methodLink RX1 57 arraycopyName ∈ Tg := Tg_mem 1117 (by decide +kernel) (by decide +kernel)
theorem K_RX1_71 : KV RX1 71 yX9_follow cX9_follow 2 none 1 := ⟨Tg_mem 1125 (by decide +kernel) (by decide +kernel), Tg_mem 96 (by decide +kernel) (by decide +kernel), Tg_mem 1122 (by decide +kernel) (by decide +kernel), Tg_mem 1123 (by decide +kernel) (by decide +kernel), Tg_mem 1124 (by decide +kernel) (by decide +kernel), by decide +kernel⟩
theorem K_RX1_81 : KV RX1 81 yX9_goDay cX9_goDay 5 none 0 := ⟨Tg_mem 787 (by decide +kernel) (by decide +kernel), Tg_mem 96 (by decide +kernel) (by decide +kernel), Tg_mem 1128 (by decide +kernel) (by decide +kernel), Tg_mem 785 (by decide +kernel) (by decide +kernel), Tg_mem 786 (by decide +kernel) (by decide +kernel), by decide +kernel⟩
theorem gf_RX1_42 {p : Program} {l : Launch} {e : Env} {R : Room} {s : State} {m : MethodId} {args : Array Value} {below : List Frame} {meth : Method} {c : Code} {H : Heap} {locs : List Loc} {cells slots : Nat} {Q : State → Prop} {E : ENV} {cc : ByteArray} {n : Nat} {r : Option FieldType} {pc : Nat} {ls : Array Slot} {rest : List Value} {a : Nat} {ws : va_W} {nm ds : String} {fs : List Value} {A : Nat → Prop} {v : Value} (C : Cx E A ⟨RX1, nm, ds⟩ cc n r p s m args meth c) (hP : va_P E.1 classes ws H) (q0 : Nat) (he : ws[q0]? = some (a, .inr (1, fs))) (hv : fs[6]? = some v) (hdg : decode cc pc = .ok (.getfield 42, 3))
    (kk : W p l e R s m args below meth c H locs cells slots Q (F0 m (pc + 3) ls (v :: rest))) : W p l e R s m args below meth c H locs cells slots Q (F0 m pc ls (.ref a :: rest)) :=
  va_get (C := RX1) (T := TX1) (N := 7) (Ts := wl ⟨RX1, nm, ds⟩ cc n r) C.1 C.2.1 C.2.2.2.2.1 (fun w h => List.mem_cons_of_mem _ (inT1 w h)) C.2.2.2.1 C.2.2.2.2.2.1 hP q0 he rfl 6 (by decide) (C.2.2.2.2.1 _ (List.mem_cons_of_mem _ q325)) (fun _ h9 => h9) hv hdg kk
theorem K_RX1_49 : KV RX1 49 yX1_tryNight cX1_tryNight 5 none 1 := ⟨Tg_mem 1112 (by decide +kernel) (by decide +kernel), Tg_mem 98 (by decide +kernel) (by decide +kernel), Tg_mem 1109 (by decide +kernel) (by decide +kernel), Tg_mem 1111 (by decide +kernel) (by decide +kernel), Tg_mem 32 (by decide +kernel) (by decide +kernel), by decide +kernel⟩
theorem q275 : Cond.fieldLinkNest RX1 63 "SnowForSummer$Walk" "state" "LSnowForSummer$State;" "SnowForSummer" ∈ NL := NL_mem 275 (by decide +kernel) (by decide +kernel)
theorem gf_RX1_63 {p : Program} {l : Launch} {e : Env} {R : Room} {s : State} {m : MethodId} {args : Array Value} {below : List Frame} {meth : Method} {c : Code} {H : Heap} {locs : List Loc} {cells slots : Nat} {Q : State → Prop} {E : ENV} {cc : ByteArray} {n : Nat} {r : Option FieldType} {pc : Nat} {ls : Array Slot} {rest : List Value} {a : Nat} {ws : va_W} {nm ds : String} {fs : List Value} {A : Nat → Prop} {v : Value} (C : Cx E A ⟨RX1, nm, ds⟩ cc n r p s m args meth c) (hP : va_P E.1 classes ws H) (q0 : Nat) (he : ws[q0]? = some (a, .inr (9, fs))) (hv : fs[3]? = some v) (hdg : decode cc pc = .ok (.getfield 63, 3))
    (kk : W p l e R s m args below meth c H locs cells slots Q (F0 m (pc + 3) ls (v :: rest))) : W p l e R s m args below meth c H locs cells slots Q (F0 m pc ls (.ref a :: rest)) :=
  va_getN (C := RX9) (T := TX9) (N := 9) (Ts := wl ⟨RX1, nm, ds⟩ cc n r) C.1 C.2.1 C.2.2.2.2.1 (fun w h => List.mem_cons_of_mem _ (inT9 w h)) C.2.2.2.1 C.2.2.2.2.2.1 hP q0 he rfl 3 (by decide) (va_Nw.use rfl (C.2.2.2.2.2.2.2.2.1 _ q275)) (fun _ h9 => h9) hv hdg kk
theorem q324 : Cond.fieldLink RX1 38 "SnowForSummer$Hands" "inches" "I" ∈ Tg := Tg_mem 324 (by decide +kernel) (by decide +kernel)
theorem gf_RX1_38 {p : Program} {l : Launch} {e : Env} {R : Room} {s : State} {m : MethodId} {args : Array Value} {below : List Frame} {meth : Method} {c : Code} {H : Heap} {locs : List Loc} {cells slots : Nat} {Q : State → Prop} {E : ENV} {cc : ByteArray} {n : Nat} {r : Option FieldType} {pc : Nat} {ls : Array Slot} {rest : List Value} {a : Nat} {ws : va_W} {nm ds : String} {fs : List Value} {A : Nat → Prop} {v : Value} (C : Cx E A ⟨RX1, nm, ds⟩ cc n r p s m args meth c) (hP : va_P E.1 classes ws H) (q0 : Nat) (he : ws[q0]? = some (a, .inr (1, fs))) (hv : fs[5]? = some v) (hdg : decode cc pc = .ok (.getfield 38, 3))
    (kk : W p l e R s m args below meth c H locs cells slots Q (F0 m (pc + 3) ls (v :: rest))) : W p l e R s m args below meth c H locs cells slots Q (F0 m pc ls (.ref a :: rest)) :=
  va_get (C := RX1) (T := TX1) (N := 7) (Ts := wl ⟨RX1, nm, ds⟩ cc n r) C.1 C.2.1 C.2.2.2.2.1 (fun w h => List.mem_cons_of_mem _ (inT1 w h)) C.2.2.2.1 C.2.2.2.2.2.1 hP q0 he rfl 5 (by decide) (C.2.2.2.2.1 _ (List.mem_cons_of_mem _ q324)) (fun _ h9 => h9) hv hdg kk
theorem K_RX1_75 : KV RX1 75 yX5_shift cX5_shift 4 (some .int) 2 := ⟨Tg_mem 849 (by decide +kernel) (by decide +kernel), Tg_mem 97 (by decide +kernel) (by decide +kernel), Tg_mem 1127 (by decide +kernel) (by decide +kernel), Tg_mem 847 (by decide +kernel) (by decide +kernel), Tg_mem 848 (by decide +kernel) (by decide +kernel), by decide +kernel⟩
theorem K_RX1_67 : KV RX1 67 yX1_isChoice cX1_isChoice 3 (some .boolean) 2 := ⟨Tg_mem 1121 (by decide +kernel) (by decide +kernel), Tg_mem 98 (by decide +kernel) (by decide +kernel), Tg_mem 1118 (by decide +kernel) (by decide +kernel), Tg_mem 1120 (by decide +kernel) (by decide +kernel), Tg_mem 34 (by decide +kernel) (by decide +kernel), by decide +kernel⟩
