theorem K_RX0_57 : KV RX0 57 yX6_takeDigit cX6_takeDigit 4 (some .int) 2 := ⟨Tg_mem 507 (by decide +kernel) (by decide +kernel), Tg_mem 91 (by decide +kernel) (by decide +kernel), Tg_mem 898 (by decide +kernel) (by decide +kernel), Tg_mem 505 (by decide +kernel) (by decide +kernel), Tg_mem 506 (by decide +kernel) (by decide +kernel), by decide +kernel⟩
theorem dX0_readSide_0 : decode cX0_readSide 0 = .ok (.aload_n 0, 1) := by decide +kernel
theorem dX0_readSide_1 : decode cX0_readSide 1 = .ok (.iconst 0, 1) := by decide +kernel
theorem dX0_readSide_2 : decode cX0_readSide 2 = .ok (.bipush 9, 2) := by decide +kernel
theorem dX0_readSide_4 : decode cX0_readSide 4 = .ok (.invokevirtual 57, 3) := by decide +kernel
theorem dX0_readSide_7 : decode cX0_readSide 7 = .ok (.istore_n 1, 1) := by decide +kernel
theorem dX0_readSide_8 : decode cX0_readSide 8 = .ok (.iload_n 1, 1) := by decide +kernel
theorem dX0_readSide_9 : decode cX0_readSide 9 = .ok (.ifCond .ge 7, 3) := by decide +kernel
theorem dX0_readSide_12 : decode cX0_readSide 12 = .ok (.iconst (-1), 1) := by decide +kernel
theorem dX0_readSide_13 : decode cX0_readSide 13 = .ok (.goto 9, 3) := by decide +kernel
theorem dX0_readSide_16 : decode cX0_readSide 16 = .ok (.aload_n 0, 1) := by decide +kernel
theorem dX0_readSide_17 : decode cX0_readSide 17 = .ok (.iconst 0, 1) := by decide +kernel
theorem dX0_readSide_18 : decode cX0_readSide 18 = .ok (.iconst 1, 1) := by decide +kernel
theorem dX0_readSide_19 : decode cX0_readSide 19 = .ok (.invokevirtual 57, 3) := by decide +kernel
theorem dX0_readSide_22 : decode cX0_readSide 22 = .ok (.istore_n 2, 1) := by decide +kernel
theorem dX0_readSide_23 : decode cX0_readSide 23 = .ok (.iload_n 2, 1) := by decide +kernel
theorem dX0_readSide_24 : decode cX0_readSide 24 = .ok (.ifCond .ge 7, 3) := by decide +kernel
theorem dX0_readSide_27 : decode cX0_readSide 27 = .ok (.iconst (-1), 1) := by decide +kernel
theorem dX0_readSide_28 : decode cX0_readSide 28 = .ok (.goto 8, 3) := by decide +kernel
theorem dX0_readSide_31 : decode cX0_readSide 31 = .ok (.iconst 2, 1) := by decide +kernel
theorem dX0_readSide_32 : decode cX0_readSide 32 = .ok (.iload_n 1, 1) := by decide +kernel
theorem dX0_readSide_33 : decode cX0_readSide 33 = .ok (.imul, 1) := by decide +kernel
theorem dX0_readSide_34 : decode cX0_readSide 34 = .ok (.iload_n 2, 1) := by decide +kernel
theorem dX0_readSide_35 : decode cX0_readSide 35 = .ok (.iadd, 1) := by decide +kernel
theorem dX0_readSide_36 : decode cX0_readSide 36 = .ok (.ireturn, 1) := by decide +kernel
def WX0_readSide (E : ENV) (q0 : Nat) (q0_signs : Nat) (i_length : Int32) (i_place : Int32) (i_limit : Int32) (a_signs : Nat → Int32) : va_W := [(q0, .inr (6, [.ref q0_signs, .int i_length, .int i_place, .int i_limit])), (q0_signs, .inl (E.2.1, 80, .inl a_signs))]
set_option maxHeartbeats 4000000 in
set_option maxRecDepth 20000 in
theorem kX0_readSide (l : Launch) (E : ENV) (q0 : Nat) (q0_signs : Nat) (i_length : Int32) (i_place : Int32) (i_limit : Int32) (a_signs : Nat → Int32) (r9 : Int32) (i_place9 : Int32) (hf : fX0_readSide i_place i_limit a_signs = some (r9, i_place9)) : CI l E yX0_readSide cX0_readSide 3 (some .int) 2 [.ref q0] (WX0_readSide E q0 q0_signs i_length i_place i_limit a_signs) (WX0_readSide E q0 q0_signs i_length i_place9 i_limit a_signs) r9 := by
  refine begI (by decide +kernel) (Nat.le_of_ble_eq_true rfl) ?_
  intro p e s m args below meth c A Q C hA hret
  have hx := C.1
  have hb := C.2.1
  have J22 : ∀ (v1 : Int32) (s0 : Int32) (i_place : Int32), fX0_readSide_J22 v1 s0 i_place = some (r9, i_place9) → GO p l e 2 s m args below meth c Q E A 3 22 [.int s0] [(1, .int v1)] (WX0_readSide E q0 q0_signs i_length i_place i_limit a_signs) := by
    intro v1 s0 i_place hf H locs ls hl hP hD hS
    unfold fX0_readSide_J22 at hf
    refine lv_istore_n (lv' := [(2, .int s0), (1, .int v1)]) hx hb dX0_readSide_22 rfl hl (by decide) rfl (fun ls hl => ?_)
    refine lv_iload_n hx hb dX0_readSide_23 rfl (lv_at hl 0 rfl) ?_
    refine lv_if_ge (tgt := 31) hx hb dX0_readSide_24 (by decide) (fun c6 => ?_) (fun c6 => ?_)
    · rw [if_pos c6] at hf
      refine lv_iconst (v := 2) hx hb dX0_readSide_31 (by decide) ?_
      refine lv_iload_n hx hb dX0_readSide_32 rfl (lv_at hl 1 rfl) ?_
      refine lv_imul hx hb dX0_readSide_33 ?_
      refine lv_iload_n hx hb dX0_readSide_34 rfl (lv_at hl 0 rfl) ?_
      refine lv_iadd hx hb dX0_readSide_35 ?_
      have hj0 := Option.some.inj hf
      obtain ⟨ha0, hj1⟩ := Prod.mk.inj hj0
      subst ha0
      subst hj1
      exact hret _ _ _ _ dX0_readSide_36 rfl hP hD hS
    · rw [if_neg c6] at hf
      refine lv_iconst (v := (-1)) hx hb dX0_readSide_27 (by decide) ?_
      refine lv_goto (tgt := 36) hx hb dX0_readSide_28 (by decide) ?_
      have hj0 := Option.some.inj hf
      obtain ⟨ha0, hj1⟩ := Prod.mk.inj hj0
      subst ha0
      subst hj1
      exact hret _ _ _ _ dX0_readSide_36 rfl hP hD hS
  intro H locs ls hl hP hD hS
  have hl : lv_has ls 3 [(0, .ref q0)] := hl
  unfold fX0_readSide at hf
  refine lv_aload_n hx hb dX0_readSide_0 rfl (lv_at hl 0 rfl) ?_
  refine lv_iconst (v := 0) hx hb dX0_readSide_1 (by decide) ?_
  refine lv_bipush (v := 9) hx hb dX0_readSide_2 (by decide) ?_
  obtain ⟨o1, hg2, hf⟩ := bd_some hf
  refine k_VI (As := [.int 0, .int 9]) C K_RX0_57 (Nat.le_of_ble_eq_true rfl) (Nat.le_of_ble_eq_true rfl) (kX6_takeDigit l E q0 q0_signs i_length i_place i_limit a_signs 0 9 o1.1 o1.2 hg2) [0, 1] rfl rfl rfl (ci := 6) rfl rfl (q0 := 0) rfl hP hD hS hA hl.1 (Nat.le_of_ble_eq_true rfl) rfl dX0_readSide_4 (fun H locs hP hD hS => ?_)
  have hP : va_P E.1 classes (WX0_readSide E q0 q0_signs i_length o1.2 i_limit a_signs) H := hP
  have hD : va_D A (WX0_readSide E q0 q0_signs i_length o1.2 i_limit a_signs) := hD
  refine lv_istore_n (lv' := [(1, .int o1.1), (0, .ref q0)]) hx hb dX0_readSide_7 rfl hl (by decide) rfl (fun ls hl => ?_)
  refine lv_iload_n hx hb dX0_readSide_8 rfl (lv_at hl 0 rfl) ?_
  refine lv_if_ge (tgt := 16) hx hb dX0_readSide_9 (by decide) (fun c3 => ?_) (fun c3 => ?_)
  · rw [if_pos c3] at hf
    refine lv_aload_n hx hb dX0_readSide_16 rfl (lv_at hl 1 rfl) ?_
    refine lv_iconst (v := 0) hx hb dX0_readSide_17 (by decide) ?_
    refine lv_iconst (v := 1) hx hb dX0_readSide_18 (by decide) ?_
    obtain ⟨o4, hg5, hf⟩ := bd_some hf
    refine k_VI (As := [.int 0, .int 1]) C K_RX0_57 (Nat.le_of_ble_eq_true rfl) (Nat.le_of_ble_eq_true rfl) (kX6_takeDigit l E q0 q0_signs i_length o1.2 i_limit a_signs 0 1 o4.1 o4.2 hg5) [0, 1] rfl rfl rfl (ci := 6) rfl rfl (q0 := 0) rfl hP hD hS hA hl.1 (Nat.le_of_ble_eq_true rfl) rfl dX0_readSide_19 (fun H locs hP hD hS => ?_)
    have hP : va_P E.1 classes (WX0_readSide E q0 q0_signs i_length o4.2 i_limit a_signs) H := hP
    have hD : va_D A (WX0_readSide E q0 q0_signs i_length o4.2 i_limit a_signs) := hD
    exact J22 o1.1 o4.1 o4.2 hf _ _ _ (lv_sub hl [0] rfl) hP hD hS
  · rw [if_neg c3] at hf
    refine lv_iconst (v := (-1)) hx hb dX0_readSide_12 (by decide) ?_
    refine lv_goto (tgt := 22) hx hb dX0_readSide_13 (by decide) ?_
    exact J22 o1.1 ((-1)) o1.2 hf _ _ _ (lv_sub hl [0] rfl) hP hD hS
theorem inT0 : ∀ w ∈ u_ws RX0 TX0 4, w ∈ Tg := by decide +kernel
theorem q224 : Cond.fieldLink RX0 18 "SnowForSummer$Acts" "second" "[I" ∈ Tg := Tg_mem 224 (by decide +kernel) (by decide +kernel)
theorem gf_RX0_18 {p : Program} {l : Launch} {e : Env} {R : Room} {s : State} {m : MethodId} {args : Array Value} {below : List Frame} {meth : Method} {c : Code} {H : Heap} {locs : List Loc} {cells slots : Nat} {Q : State → Prop} {E : ENV} {cc : ByteArray} {n : Nat} {r : Option FieldType} {pc : Nat} {ls : Array Slot} {rest : List Value} {a : Nat} {ws : va_W} {nm ds : String} {fs : List Value} {A : Nat → Prop} {v : Value} (C : Cx E A ⟨RX0, nm, ds⟩ cc n r p s m args meth c) (hP : va_P E.1 classes ws H) (q0 : Nat) (he : ws[q0]? = some (a, .inr (0, fs))) (hv : fs[2]? = some v) (hdg : decode cc pc = .ok (.getfield 18, 3))
    (kk : W p l e R s m args below meth c H locs cells slots Q (F0 m (pc + 3) ls (v :: rest))) : W p l e R s m args below meth c H locs cells slots Q (F0 m pc ls (.ref a :: rest)) :=
  va_get (C := RX0) (T := TX0) (N := 4) (Ts := wl ⟨RX0, nm, ds⟩ cc n r) C.1 C.2.1 C.2.2.2.2.1 (fun w h => List.mem_cons_of_mem _ (inT0 w h)) C.2.2.2.1 C.2.2.2.2.2.1 hP q0 he rfl 2 (by decide) (C.2.2.2.2.1 _ (List.mem_cons_of_mem _ q224)) (fun _ h9 => h9) hv hdg kk
theorem K_RX0_39 : KV RX0 39 yX6_take cX6_take 2 (some .boolean) 1 := ⟨Tg_mem 519 (by decide +kernel) (by decide +kernel), Tg_mem 91 (by decide +kernel) (by decide +kernel), Tg_mem 903 (by decide +kernel) (by decide +kernel), Tg_mem 517 (by decide +kernel) (by decide +kernel), Tg_mem 518 (by decide +kernel) (by decide +kernel), by decide +kernel⟩
theorem K_RX0_66 : KV RX0 66 yX6_takeNumber cX6_takeNumber 5 (some .int) 1 := ⟨Tg_mem 503 (by decide +kernel) (by decide +kernel), Tg_mem 91 (by decide +kernel) (by decide +kernel), Tg_mem 904 (by decide +kernel) (by decide +kernel), Tg_mem 501 (by decide +kernel) (by decide +kernel), Tg_mem 502 (by decide +kernel) (by decide +kernel), by decide +kernel⟩
theorem dX0_readInches_0 : decode cX0_readInches 0 = .ok (.aload_n 0, 1) := by decide +kernel
theorem dX0_readInches_1 : decode cX0_readInches 1 = .ok (.getfield 18, 3) := by decide +kernel
theorem dX0_readInches_4 : decode cX0_readInches 4 = .ok (.iload_n 2, 1) := by decide +kernel
theorem dX0_readInches_5 : decode cX0_readInches 5 = .ok (.aload_n 1, 1) := by decide +kernel
theorem dX0_readInches_6 : decode cX0_readInches 6 = .ok (.bipush 42, 2) := by decide +kernel
theorem dX0_readInches_8 : decode cX0_readInches 8 = .ok (.invokevirtual 39, 3) := by decide +kernel
theorem dX0_readInches_11 : decode cX0_readInches 11 = .ok (.ifCond .eq 11, 3) := by decide +kernel
theorem dX0_readInches_14 : decode cX0_readInches 14 = .ok (.aload_n 1, 1) := by decide +kernel
theorem dX0_readInches_15 : decode cX0_readInches 15 = .ok (.iconst 2, 1) := by decide +kernel
theorem dX0_readInches_16 : decode cX0_readInches 16 = .ok (.invokevirtual 66, 3) := by decide +kernel
theorem dX0_readInches_19 : decode cX0_readInches 19 = .ok (.goto 4, 3) := by decide +kernel
theorem dX0_readInches_22 : decode cX0_readInches 22 = .ok (.iconst (-1), 1) := by decide +kernel
theorem dX0_readInches_23 : decode cX0_readInches 23 = .ok (.iastore, 1) := by decide +kernel
theorem dX0_readInches_24 : decode cX0_readInches 24 = .ok (.aload_n 0, 1) := by decide +kernel
theorem dX0_readInches_25 : decode cX0_readInches 25 = .ok (.getfield 18, 3) := by decide +kernel
theorem dX0_readInches_28 : decode cX0_readInches 28 = .ok (.iload_n 2, 1) := by decide +kernel
theorem dX0_readInches_29 : decode cX0_readInches 29 = .ok (.iaload, 1) := by decide +kernel
theorem dX0_readInches_30 : decode cX0_readInches 30 = .ok (.ifCond .lt 7, 3) := by decide +kernel
theorem dX0_readInches_33 : decode cX0_readInches 33 = .ok (.iconst 1, 1) := by decide +kernel
theorem dX0_readInches_34 : decode cX0_readInches 34 = .ok (.goto 4, 3) := by decide +kernel
theorem dX0_readInches_37 : decode cX0_readInches 37 = .ok (.iconst 0, 1) := by decide +kernel
theorem dX0_readInches_38 : decode cX0_readInches 38 = .ok (.ireturn, 1) := by decide +kernel
def WX0_readInches (E : ENV) (q0 : Nat) (q0_kind : Nat) (q0_first : Nat) (q0_second : Nat) (q1 : Nat) (q1_signs : Nat) (i_size : Int32) (a_second : Nat → Int32) (i_p1_length : Int32) (i_p1_place : Int32) (i_p1_limit : Int32) (a_p1_signs : Nat → Int32) : va_W := [(q0, .inr (0, [.ref q0_kind, .ref q0_first, .ref q0_second, .int i_size])), (q0_second, .inl (E.2.1, 30, .inl a_second)), (q1, .inr (6, [.ref q1_signs, .int i_p1_length, .int i_p1_place, .int i_p1_limit])), (q1_signs, .inl (E.2.1, 80, .inl a_p1_signs))]
set_option maxHeartbeats 4000000 in
set_option maxRecDepth 20000 in
theorem kX0_readInches (l : Launch) (E : ENV) (q0 : Nat) (q0_kind : Nat) (q0_first : Nat) (q0_second : Nat) (q1 : Nat) (q1_signs : Nat) (i_size : Int32) (a_second : Nat → Int32) (i_p1_length : Int32) (i_p1_place : Int32) (i_p1_limit : Int32) (a_p1_signs : Nat → Int32) (p2 : Int32) (r9 : Int32) (a_second9 : Nat → Int32) (i_p1_place9 : Int32) (hf : fX0_readInches a_second i_p1_place i_p1_limit a_p1_signs p2 = some (r9, a_second9, i_p1_place9)) : CI l E yX0_readInches cX0_readInches 3 (some .boolean) 3 [.ref q0, .ref q1, .int p2] (WX0_readInches E q0 q0_kind q0_first q0_second q1 q1_signs i_size a_second i_p1_length i_p1_place i_p1_limit a_p1_signs) (WX0_readInches E q0 q0_kind q0_first q0_second q1 q1_signs i_size a_second9 i_p1_length i_p1_place9 i_p1_limit a_p1_signs) r9 := by
  refine begI (by decide +kernel) (Nat.le_of_ble_eq_true rfl) ?_
  intro p e s m args below meth c A Q C hA hret
  have hx := C.1
  have hb := C.2.1
  have J23 : ∀ (s0 : Int32) (s1 : Int32) (a_second : Nat → Int32) (i_p1_place : Int32), fX0_readInches_J23 p2 s0 s1 a_second i_p1_place = some (r9, a_second9, i_p1_place9) → GO p l e 3 s m args below meth c Q E A 3 23 [.int s0, .int s1, .ref q0_second] [(0, .ref q0), (2, .int p2)] (WX0_readInches E q0 q0_kind q0_first q0_second q1 q1_signs i_size a_second i_p1_length i_p1_place i_p1_limit a_p1_signs) := by
    intro s0 s1 a_second i_p1_place hf H locs ls hl hP hD hS
    unfold fX0_readInches_J23 at hf
    obtain ⟨g4, hf⟩ := gd_some hf
    refine va_iast hx hb C.2.2.2.2.2.1 hP hD hS 1 0 rfl rfl (vin_in g4) dX0_readInches_23 (fun H locs hP hD hS => ?_)
    have hP : va_P E.1 classes (WX0_readInches E q0 q0_kind q0_first q0_second q1 q1_signs i_size ((upd a_second (s1 : Int32).toNatClampNeg s0)) i_p1_length i_p1_place i_p1_limit a_p1_signs) H := hP
    have hD : va_D A (WX0_readInches E q0 q0_kind q0_first q0_second q1 q1_signs i_size ((upd a_second (s1 : Int32).toNatClampNeg s0)) i_p1_length i_p1_place i_p1_limit a_p1_signs) := hD
    refine lv_aload_n hx hb dX0_readInches_24 rfl (lv_at hl 0 rfl) ?_
    refine gf_RX0_18 C hP 0 rfl rfl dX0_readInches_25 ?_
    refine lv_iload_n hx hb dX0_readInches_28 rfl (lv_at hl 1 rfl) ?_
    obtain ⟨g5, hf⟩ := gd_some hf
    refine va_iald hx hb C.2.2.2.2.2.1 hP 1 0 rfl rfl (vin_in g5) dX0_readInches_29 ?_
    refine lv_if_lt (tgt := 37) hx hb dX0_readInches_30 (by decide) (fun c6 => ?_) (fun c6 => ?_)
    · rw [if_pos c6] at hf
      refine lv_iconst (v := 0) hx hb dX0_readInches_37 (by decide) ?_
      have hj0 := Option.some.inj hf
      obtain ⟨ha0, hj1⟩ := Prod.mk.inj hj0
      obtain ⟨ha1, hj2⟩ := Prod.mk.inj hj1
      subst ha0
      subst ha1
      subst hj2
      exact hret _ _ _ _ dX0_readInches_38 rfl hP hD hS
    · rw [if_neg c6] at hf
      refine lv_iconst (v := 1) hx hb dX0_readInches_33 (by decide) ?_
      refine lv_goto (tgt := 38) hx hb dX0_readInches_34 (by decide) ?_
      have hj0 := Option.some.inj hf
      obtain ⟨ha0, hj1⟩ := Prod.mk.inj hj0
      obtain ⟨ha1, hj2⟩ := Prod.mk.inj hj1
      subst ha0
      subst ha1
      subst hj2
      exact hret _ _ _ _ dX0_readInches_38 rfl hP hD hS
  intro H locs ls hl hP hD hS
  have hl : lv_has ls 3 [(0, .ref q0), (1, .ref q1), (2, .int p2)] := hl
  unfold fX0_readInches at hf
  refine lv_aload_n hx hb dX0_readInches_0 rfl (lv_at hl 0 rfl) ?_
  refine gf_RX0_18 C hP 0 rfl rfl dX0_readInches_1 ?_
  refine lv_iload_n hx hb dX0_readInches_4 rfl (lv_at hl 2 rfl) ?_
  refine lv_aload_n hx hb dX0_readInches_5 rfl (lv_at hl 1 rfl) ?_
  refine lv_bipush (v := 42) hx hb dX0_readInches_6 (by decide) ?_
  obtain ⟨o1, hg2, hf⟩ := bd_some hf
  refine k_VI (As := [.int 42]) C K_RX0_39 (Nat.le_of_ble_eq_true rfl) (Nat.le_of_ble_eq_true rfl) (kX6_take l E q1 q1_signs i_p1_length i_p1_place i_p1_limit a_p1_signs 42 o1.1 o1.2 hg2) [2, 3] rfl rfl rfl (ci := 6) rfl rfl (q0 := 0) rfl hP hD hS hA hl.1 (Nat.le_of_ble_eq_true rfl) rfl dX0_readInches_8 (fun H locs hP hD hS => ?_)
  have hP : va_P E.1 classes (WX0_readInches E q0 q0_kind q0_first q0_second q1 q1_signs i_size a_second i_p1_length o1.2 i_p1_limit a_p1_signs) H := hP
  have hD : va_D A (WX0_readInches E q0 q0_kind q0_first q0_second q1 q1_signs i_size a_second i_p1_length o1.2 i_p1_limit a_p1_signs) := hD
  refine lv_if_eq (tgt := 22) hx hb dX0_readInches_11 (by decide) (fun c3 => ?_) (fun c3 => ?_)
  · rw [if_pos c3] at hf
    refine lv_iconst (v := (-1)) hx hb dX0_readInches_22 (by decide) ?_
    exact J23 ((-1)) p2 a_second o1.2 hf _ _ _ (lv_sub hl [0, 2] rfl) hP hD hS
  · rw [if_neg c3] at hf
    refine lv_aload_n hx hb dX0_readInches_14 rfl (lv_at hl 1 rfl) ?_
    refine lv_iconst (v := 2) hx hb dX0_readInches_15 (by decide) ?_
    obtain ⟨o7, hg8, hf⟩ := bd_some hf
    refine k_VI (As := [.int 2]) C K_RX0_66 (Nat.le_of_ble_eq_true rfl) (Nat.le_of_ble_eq_true rfl) (kX6_takeNumber l E q1 q1_signs i_p1_length o1.2 i_p1_limit a_p1_signs 2 o7.1 o7.2 hg8) [2, 3] rfl rfl rfl (ci := 6) rfl rfl (q0 := 0) rfl hP hD hS hA hl.1 (Nat.le_of_ble_eq_true rfl) rfl dX0_readInches_16 (fun H locs hP hD hS => ?_)
    have hP : va_P E.1 classes (WX0_readInches E q0 q0_kind q0_first q0_second q1 q1_signs i_size a_second i_p1_length o7.2 i_p1_limit a_p1_signs) H := hP
    have hD : va_D A (WX0_readInches E q0 q0_kind q0_first q0_second q1 q1_signs i_size a_second i_p1_length o7.2 i_p1_limit a_p1_signs) := hD
    refine lv_goto (tgt := 23) hx hb dX0_readInches_19 (by decide) ?_
    exact J23 o7.1 p2 a_second o7.2 hf _ _ _ (lv_sub hl [0, 2] rfl) hP hD hS
theorem q220 : Cond.fieldLink RX0 11 "SnowForSummer$Acts" "kind" "[I" ∈ Tg := Tg_mem 220 (by decide +kernel) (by decide +kernel)
theorem gf_RX0_11 {p : Program} {l : Launch} {e : Env} {R : Room} {s : State} {m : MethodId} {args : Array Value} {below : List Frame} {meth : Method} {c : Code} {H : Heap} {locs : List Loc} {cells slots : Nat} {Q : State → Prop} {E : ENV} {cc : ByteArray} {n : Nat} {r : Option FieldType} {pc : Nat} {ls : Array Slot} {rest : List Value} {a : Nat} {ws : va_W} {nm ds : String} {fs : List Value} {A : Nat → Prop} {v : Value} (C : Cx E A ⟨RX0, nm, ds⟩ cc n r p s m args meth c) (hP : va_P E.1 classes ws H) (q0 : Nat) (he : ws[q0]? = some (a, .inr (0, fs))) (hv : fs[0]? = some v) (hdg : decode cc pc = .ok (.getfield 11, 3))
    (kk : W p l e R s m args below meth c H locs cells slots Q (F0 m (pc + 3) ls (v :: rest))) : W p l e R s m args below meth c H locs cells slots Q (F0 m pc ls (.ref a :: rest)) :=
  va_get (C := RX0) (T := TX0) (N := 4) (Ts := wl ⟨RX0, nm, ds⟩ cc n r) C.1 C.2.1 C.2.2.2.2.1 (fun w h => List.mem_cons_of_mem _ (inT0 w h)) C.2.2.2.1 C.2.2.2.2.2.1 hP q0 he rfl 0 (by decide) (C.2.2.2.2.1 _ (List.mem_cons_of_mem _ q220)) (fun _ h9 => h9) hv hdg kk
theorem K_RX0_43 : KV RX0 43 yX6_peek cX6_peek 1 (some .int) 0 := ⟨Tg_mem 511 (by decide +kernel) (by decide +kernel), Tg_mem 91 (by decide +kernel) (by decide +kernel), Tg_mem 893 (by decide +kernel) (by decide +kernel), Tg_mem 509 (by decide +kernel) (by decide +kernel), Tg_mem 510 (by decide +kernel) (by decide +kernel), by decide +kernel⟩
theorem K_RX0_47 : KV RX0 47 yX6_skip cX6_skip 1 none 0 := ⟨Tg_mem 558 (by decide +kernel) (by decide +kernel), Tg_mem 91 (by decide +kernel) (by decide +kernel), Tg_mem 894 (by decide +kernel) (by decide +kernel), Tg_mem 556 (by decide +kernel) (by decide +kernel), Tg_mem 557 (by decide +kernel) (by decide +kernel), by decide +kernel⟩
theorem q222 : Cond.fieldLink RX0 15 "SnowForSummer$Acts" "first" "[I" ∈ Tg := Tg_mem 222 (by decide +kernel) (by decide +kernel)
theorem gf_RX0_15 {p : Program} {l : Launch} {e : Env} {R : Room} {s : State} {m : MethodId} {args : Array Value} {below : List Frame} {meth : Method} {c : Code} {H : Heap} {locs : List Loc} {cells slots : Nat} {Q : State → Prop} {E : ENV} {cc : ByteArray} {n : Nat} {r : Option FieldType} {pc : Nat} {ls : Array Slot} {rest : List Value} {a : Nat} {ws : va_W} {nm ds : String} {fs : List Value} {A : Nat → Prop} {v : Value} (C : Cx E A ⟨RX0, nm, ds⟩ cc n r p s m args meth c) (hP : va_P E.1 classes ws H) (q0 : Nat) (he : ws[q0]? = some (a, .inr (0, fs))) (hv : fs[1]? = some v) (hdg : decode cc pc = .ok (.getfield 15, 3))
    (kk : W p l e R s m args below meth c H locs cells slots Q (F0 m (pc + 3) ls (v :: rest))) : W p l e R s m args below meth c H locs cells slots Q (F0 m pc ls (.ref a :: rest)) :=
  va_get (C := RX0) (T := TX0) (N := 4) (Ts := wl ⟨RX0, nm, ds⟩ cc n r) C.1 C.2.1 C.2.2.2.2.1 (fun w h => List.mem_cons_of_mem _ (inT0 w h)) C.2.2.2.1 C.2.2.2.2.2.1 hP q0 he rfl 1 (by decide) (C.2.2.2.2.1 _ (List.mem_cons_of_mem _ q222)) (fun _ h9 => h9) hv hdg kk
theorem K_RX0_54 : KV RX0 54 yX0_readInches cX0_readInches 3 (some .boolean) 2 := ⟨Tg_mem 902 (by decide +kernel) (by decide +kernel), Tg_mem 95 (by decide +kernel) (by decide +kernel), Tg_mem 899 (by decide +kernel) (by decide +kernel), Tg_mem 901 (by decide +kernel) (by decide +kernel), Tg_mem 20 (by decide +kernel) (by decide +kernel), by decide +kernel⟩
theorem q905 : Cond.methodLink RX0 61 Lib.Math.max.name ∈ Tg := Tg_mem 905 (by decide +kernel) (by decide +kernel)
theorem K_RX0_50 : KS RX0 50 yX0_readSide cX0_readSide 3 (some .int) 1 := ⟨Tg_mem 897 (by decide +kernel) (by decide +kernel), Tg_mem 95 (by decide +kernel) (by decide +kernel), Tg_mem 895 (by decide +kernel) (by decide +kernel), Tg_mem 896 (by decide +kernel) (by decide +kernel), by decide +kernel⟩
theorem dX0_readAct_0 : decode cX0_readAct 0 = .ok (.aload_n 0, 1) := by decide +kernel
theorem dX0_readAct_1 : decode cX0_readAct 1 = .ok (.getfield 11, 3) := by decide +kernel
theorem dX0_readAct_4 : decode cX0_readAct 4 = .ok (.iload_n 2, 1) := by decide +kernel
theorem dX0_readAct_5 : decode cX0_readAct 5 = .ok (.aload_n 1, 1) := by decide +kernel
theorem dX0_readAct_6 : decode cX0_readAct 6 = .ok (.invokevirtual 43, 3) := by decide +kernel
theorem dX0_readAct_9 : decode cX0_readAct 9 = .ok (.iastore, 1) := by decide +kernel
theorem dX0_readAct_10 : decode cX0_readAct 10 = .ok (.aload_n 0, 1) := by decide +kernel
theorem dX0_readAct_11 : decode cX0_readAct 11 = .ok (.getfield 11, 3) := by decide +kernel
theorem dX0_readAct_14 : decode cX0_readAct 14 = .ok (.iload_n 2, 1) := by decide +kernel
theorem dX0_readAct_15 : decode cX0_readAct 15 = .ok (.iaload, 1) := by decide +kernel
theorem dX0_readAct_16 : decode cX0_readAct 16 = .ok (.lookupswitch 201 #[(99, 82), (100, 178), (108, 123), (115, 44)], 44) := by decide +kernel
theorem dX0_readAct_60 : decode cX0_readAct 60 = .ok (.aload_n 1, 1) := by decide +kernel
theorem dX0_readAct_61 : decode cX0_readAct 61 = .ok (.invokevirtual 47, 3) := by decide +kernel
theorem dX0_readAct_64 : decode cX0_readAct 64 = .ok (.aload_n 0, 1) := by decide +kernel
theorem dX0_readAct_65 : decode cX0_readAct 65 = .ok (.getfield 15, 3) := by decide +kernel
theorem dX0_readAct_68 : decode cX0_readAct 68 = .ok (.iload_n 2, 1) := by decide +kernel
theorem dX0_readAct_69 : decode cX0_readAct 69 = .ok (.aload_n 1, 1) := by decide +kernel
theorem dX0_readAct_70 : decode cX0_readAct 70 = .ok (.invokestatic 50, 3) := by decide +kernel
theorem dX0_readAct_73 : decode cX0_readAct 73 = .ok (.iastore, 1) := by decide +kernel
theorem dX0_readAct_74 : decode cX0_readAct 74 = .ok (.aload_n 0, 1) := by decide +kernel
theorem dX0_readAct_75 : decode cX0_readAct 75 = .ok (.getfield 15, 3) := by decide +kernel
theorem dX0_readAct_78 : decode cX0_readAct 78 = .ok (.iload_n 2, 1) := by decide +kernel
theorem dX0_readAct_79 : decode cX0_readAct 79 = .ok (.iaload, 1) := by decide +kernel
theorem dX0_readAct_80 : decode cX0_readAct 80 = .ok (.ifCond .lt 16, 3) := by decide +kernel
theorem dX0_readAct_83 : decode cX0_readAct 83 = .ok (.aload_n 0, 1) := by decide +kernel
theorem dX0_readAct_84 : decode cX0_readAct 84 = .ok (.aload_n 1, 1) := by decide +kernel
theorem dX0_readAct_85 : decode cX0_readAct 85 = .ok (.iload_n 2, 1) := by decide +kernel
theorem dX0_readAct_86 : decode cX0_readAct 86 = .ok (.invokevirtual 54, 3) := by decide +kernel
theorem dX0_readAct_89 : decode cX0_readAct 89 = .ok (.ifCond .eq 7, 3) := by decide +kernel
theorem dX0_readAct_92 : decode cX0_readAct 92 = .ok (.iconst 1, 1) := by decide +kernel
theorem dX0_readAct_93 : decode cX0_readAct 93 = .ok (.goto 4, 3) := by decide +kernel
theorem dX0_readAct_96 : decode cX0_readAct 96 = .ok (.iconst 0, 1) := by decide +kernel
theorem dX0_readAct_97 : decode cX0_readAct 97 = .ok (.ireturn, 1) := by decide +kernel
theorem dX0_readAct_98 : decode cX0_readAct 98 = .ok (.aload_n 1, 1) := by decide +kernel
theorem dX0_readAct_99 : decode cX0_readAct 99 = .ok (.invokevirtual 47, 3) := by decide +kernel
theorem dX0_readAct_102 : decode cX0_readAct 102 = .ok (.aload_n 0, 1) := by decide +kernel
theorem dX0_readAct_103 : decode cX0_readAct 103 = .ok (.getfield 15, 3) := by decide +kernel
theorem dX0_readAct_106 : decode cX0_readAct 106 = .ok (.iload_n 2, 1) := by decide +kernel
theorem dX0_readAct_107 : decode cX0_readAct 107 = .ok (.aload_n 1, 1) := by decide +kernel
theorem dX0_readAct_108 : decode cX0_readAct 108 = .ok (.iconst 0, 1) := by decide +kernel
theorem dX0_readAct_109 : decode cX0_readAct 109 = .ok (.bipush 9, 2) := by decide +kernel
theorem dX0_readAct_111 : decode cX0_readAct 111 = .ok (.invokevirtual 57, 3) := by decide +kernel
theorem dX0_readAct_114 : decode cX0_readAct 114 = .ok (.iastore, 1) := by decide +kernel
theorem dX0_readAct_115 : decode cX0_readAct 115 = .ok (.aload_n 0, 1) := by decide +kernel
theorem dX0_readAct_116 : decode cX0_readAct 116 = .ok (.getfield 15, 3) := by decide +kernel
theorem dX0_readAct_119 : decode cX0_readAct 119 = .ok (.iload_n 2, 1) := by decide +kernel
theorem dX0_readAct_120 : decode cX0_readAct 120 = .ok (.iaload, 1) := by decide +kernel
theorem dX0_readAct_121 : decode cX0_readAct 121 = .ok (.ifCond .lt 16, 3) := by decide +kernel
theorem dX0_readAct_124 : decode cX0_readAct 124 = .ok (.aload_n 0, 1) := by decide +kernel
theorem dX0_readAct_125 : decode cX0_readAct 125 = .ok (.aload_n 1, 1) := by decide +kernel
theorem dX0_readAct_126 : decode cX0_readAct 126 = .ok (.iload_n 2, 1) := by decide +kernel
theorem dX0_readAct_127 : decode cX0_readAct 127 = .ok (.invokevirtual 54, 3) := by decide +kernel
theorem dX0_readAct_130 : decode cX0_readAct 130 = .ok (.ifCond .eq 7, 3) := by decide +kernel
theorem dX0_readAct_133 : decode cX0_readAct 133 = .ok (.iconst 1, 1) := by decide +kernel
theorem dX0_readAct_134 : decode cX0_readAct 134 = .ok (.goto 4, 3) := by decide +kernel
theorem dX0_readAct_137 : decode cX0_readAct 137 = .ok (.iconst 0, 1) := by decide +kernel
theorem dX0_readAct_138 : decode cX0_readAct 138 = .ok (.ireturn, 1) := by decide +kernel
theorem dX0_readAct_139 : decode cX0_readAct 139 = .ok (.aload_n 1, 1) := by decide +kernel
theorem dX0_readAct_140 : decode cX0_readAct 140 = .ok (.invokevirtual 47, 3) := by decide +kernel
theorem dX0_readAct_143 : decode cX0_readAct 143 = .ok (.aload_n 0, 1) := by decide +kernel
theorem dX0_readAct_144 : decode cX0_readAct 144 = .ok (.getfield 15, 3) := by decide +kernel
theorem dX0_readAct_147 : decode cX0_readAct 147 = .ok (.iload_n 2, 1) := by decide +kernel
theorem dX0_readAct_148 : decode cX0_readAct 148 = .ok (.aload_n 1, 1) := by decide +kernel
theorem dX0_readAct_149 : decode cX0_readAct 149 = .ok (.iconst 0, 1) := by decide +kernel
theorem dX0_readAct_150 : decode cX0_readAct 150 = .ok (.bipush 9, 2) := by decide +kernel
theorem dX0_readAct_152 : decode cX0_readAct 152 = .ok (.invokevirtual 57, 3) := by decide +kernel
theorem dX0_readAct_155 : decode cX0_readAct 155 = .ok (.iastore, 1) := by decide +kernel
theorem dX0_readAct_156 : decode cX0_readAct 156 = .ok (.aload_n 0, 1) := by decide +kernel
theorem dX0_readAct_157 : decode cX0_readAct 157 = .ok (.getfield 18, 3) := by decide +kernel
theorem dX0_readAct_160 : decode cX0_readAct 160 = .ok (.iload_n 2, 1) := by decide +kernel
theorem dX0_readAct_161 : decode cX0_readAct 161 = .ok (.aload_n 0, 1) := by decide +kernel
theorem dX0_readAct_162 : decode cX0_readAct 162 = .ok (.getfield 15, 3) := by decide +kernel
theorem dX0_readAct_165 : decode cX0_readAct 165 = .ok (.iload_n 2, 1) := by decide +kernel
theorem dX0_readAct_166 : decode cX0_readAct 166 = .ok (.iaload, 1) := by decide +kernel
theorem dX0_readAct_167 : decode cX0_readAct 167 = .ok (.ifCond .ge 7, 3) := by decide +kernel
theorem dX0_readAct_170 : decode cX0_readAct 170 = .ok (.iconst (-1), 1) := by decide +kernel
theorem dX0_readAct_171 : decode cX0_readAct 171 = .ok (.goto 7, 3) := by decide +kernel
theorem dX0_readAct_174 : decode cX0_readAct 174 = .ok (.aload_n 1, 1) := by decide +kernel
theorem dX0_readAct_175 : decode cX0_readAct 175 = .ok (.invokestatic 50, 3) := by decide +kernel
theorem dX0_readAct_178 : decode cX0_readAct 178 = .ok (.iastore, 1) := by decide +kernel
theorem dX0_readAct_179 : decode cX0_readAct 179 = .ok (.aload_n 0, 1) := by decide +kernel
theorem dX0_readAct_180 : decode cX0_readAct 180 = .ok (.getfield 18, 3) := by decide +kernel
theorem dX0_readAct_183 : decode cX0_readAct 183 = .ok (.iload_n 2, 1) := by decide +kernel
theorem dX0_readAct_184 : decode cX0_readAct 184 = .ok (.iaload, 1) := by decide +kernel
theorem dX0_readAct_185 : decode cX0_readAct 185 = .ok (.ifCond .lt 7, 3) := by decide +kernel
theorem dX0_readAct_188 : decode cX0_readAct 188 = .ok (.iconst 1, 1) := by decide +kernel
theorem dX0_readAct_189 : decode cX0_readAct 189 = .ok (.goto 4, 3) := by decide +kernel
theorem dX0_readAct_192 : decode cX0_readAct 192 = .ok (.iconst 0, 1) := by decide +kernel
theorem dX0_readAct_193 : decode cX0_readAct 193 = .ok (.ireturn, 1) := by decide +kernel
theorem dX0_readAct_194 : decode cX0_readAct 194 = .ok (.aload_n 1, 1) := by decide +kernel
theorem dX0_readAct_195 : decode cX0_readAct 195 = .ok (.invokevirtual 47, 3) := by decide +kernel
theorem dX0_readAct_198 : decode cX0_readAct 198 = .ok (.aload_n 0, 1) := by decide +kernel
theorem dX0_readAct_199 : decode cX0_readAct 199 = .ok (.getfield 15, 3) := by decide +kernel
theorem dX0_readAct_202 : decode cX0_readAct 202 = .ok (.iload_n 2, 1) := by decide +kernel
theorem dX0_readAct_203 : decode cX0_readAct 203 = .ok (.iconst 1, 1) := by decide +kernel
theorem dX0_readAct_204 : decode cX0_readAct 204 = .ok (.aload_n 1, 1) := by decide +kernel
theorem dX0_readAct_205 : decode cX0_readAct 205 = .ok (.iconst 1, 1) := by decide +kernel
theorem dX0_readAct_206 : decode cX0_readAct 206 = .ok (.bipush 9, 2) := by decide +kernel
theorem dX0_readAct_208 : decode cX0_readAct 208 = .ok (.invokevirtual 57, 3) := by decide +kernel
theorem dX0_readAct_211 : decode cX0_readAct 211 = .ok (.invokestatic 61, 3) := by decide +kernel
theorem dX0_readAct_214 : decode cX0_readAct 214 = .ok (.iastore, 1) := by decide +kernel
theorem dX0_readAct_215 : decode cX0_readAct 215 = .ok (.iconst 1, 1) := by decide +kernel
theorem dX0_readAct_216 : decode cX0_readAct 216 = .ok (.ireturn, 1) := by decide +kernel
theorem dX0_readAct_217 : decode cX0_readAct 217 = .ok (.iconst 0, 1) := by decide +kernel
theorem dX0_readAct_218 : decode cX0_readAct 218 = .ok (.ireturn, 1) := by decide +kernel
def WX0_readAct (E : ENV) (q0 : Nat) (q0_kind : Nat) (q0_first : Nat) (q0_second : Nat) (q1 : Nat) (q1_signs : Nat) (i_size : Int32) (a_kind : Nat → Int32) (a_first : Nat → Int32) (a_second : Nat → Int32) (i_p1_length : Int32) (i_p1_place : Int32) (i_p1_limit : Int32) (a_p1_signs : Nat → Int32) : va_W := [(q0, .inr (0, [.ref q0_kind, .ref q0_first, .ref q0_second, .int i_size])), (q0_kind, .inl (E.2.1, 30, .inl a_kind)), (q0_first, .inl (E.2.1, 30, .inl a_first)), (q0_second, .inl (E.2.1, 30, .inl a_second)), (q1, .inr (6, [.ref q1_signs, .int i_p1_length, .int i_p1_place, .int i_p1_limit])), (q1_signs, .inl (E.2.1, 80, .inl a_p1_signs))]
set_option maxHeartbeats 4000000 in
set_option maxRecDepth 20000 in
theorem kX0_readAct (l : Launch) (E : ENV) (q0 : Nat) (q0_kind : Nat) (q0_first : Nat) (q0_second : Nat) (q1 : Nat) (q1_signs : Nat) (i_size : Int32) (a_kind : Nat → Int32) (a_first : Nat → Int32) (a_second : Nat → Int32) (i_p1_length : Int32) (i_p1_place : Int32) (i_p1_limit : Int32) (a_p1_signs : Nat → Int32) (p2 : Int32) (r9 : Int32) (a_kind9 : Nat → Int32) (a_first9 : Nat → Int32) (a_second9 : Nat → Int32) (i_p1_place9 : Int32) (hf : fX0_readAct a_kind a_first a_second i_p1_place i_p1_limit a_p1_signs p2 = some (r9, a_kind9, a_first9, a_second9, i_p1_place9)) : CI l E yX0_readAct cX0_readAct 3 (some .boolean) 4 [.ref q0, .ref q1, .int p2] (WX0_readAct E q0 q0_kind q0_first q0_second q1 q1_signs i_size a_kind a_first a_second i_p1_length i_p1_place i_p1_limit a_p1_signs) (WX0_readAct E q0 q0_kind q0_first q0_second q1 q1_signs i_size a_kind9 a_first9 a_second9 i_p1_length i_p1_place9 i_p1_limit a_p1_signs) r9 := by
  refine begI (by decide +kernel) (Nat.le_of_ble_eq_true rfl) ?_
  intro p e s m args below meth c A Q C hA hret
  have hx := C.1
  have hb := C.2.1
  have J178 : ∀ (s0 : Int32) (s1 : Int32) (a_kind : Nat → Int32) (a_first : Nat → Int32) (a_second : Nat → Int32) (i_p1_place : Int32), fX0_readAct_J178 p2 s0 s1 a_kind a_first a_second i_p1_place = some (r9, a_kind9, a_first9, a_second9, i_p1_place9) → GO p l e 4 s m args below meth c Q E A 3 178 [.int s0, .int s1, .ref q0_second] [(0, .ref q0), (2, .int p2)] (WX0_readAct E q0 q0_kind q0_first q0_second q1 q1_signs i_size a_kind a_first a_second i_p1_length i_p1_place i_p1_limit a_p1_signs) := by
    intro s0 s1 a_kind a_first a_second i_p1_place hf H locs ls hl hP hD hS
    unfold fX0_readAct_J178 at hf
    obtain ⟨g32, hf⟩ := gd_some hf
    refine va_iast hx hb C.2.2.2.2.2.1 hP hD hS 3 0 rfl rfl (vin_in g32) dX0_readAct_178 (fun H locs hP hD hS => ?_)
    have hP : va_P E.1 classes (WX0_readAct E q0 q0_kind q0_first q0_second q1 q1_signs i_size a_kind a_first ((upd a_second (s1 : Int32).toNatClampNeg s0)) i_p1_length i_p1_place i_p1_limit a_p1_signs) H := hP
    have hD : va_D A (WX0_readAct E q0 q0_kind q0_first q0_second q1 q1_signs i_size a_kind a_first ((upd a_second (s1 : Int32).toNatClampNeg s0)) i_p1_length i_p1_place i_p1_limit a_p1_signs) := hD
    refine lv_aload_n hx hb dX0_readAct_179 rfl (lv_at hl 0 rfl) ?_
    refine gf_RX0_18 C hP 0 rfl rfl dX0_readAct_180 ?_
    refine lv_iload_n hx hb dX0_readAct_183 rfl (lv_at hl 1 rfl) ?_
    obtain ⟨g33, hf⟩ := gd_some hf
    refine va_iald hx hb C.2.2.2.2.2.1 hP 3 0 rfl rfl (vin_in g33) dX0_readAct_184 ?_
    refine lv_if_lt (tgt := 192) hx hb dX0_readAct_185 (by decide) (fun c34 => ?_) (fun c34 => ?_)
    · rw [if_pos c34] at hf
      refine lv_iconst (v := 0) hx hb dX0_readAct_192 (by decide) ?_
      have hj0 := Option.some.inj hf
      obtain ⟨ha0, hj1⟩ := Prod.mk.inj hj0
      obtain ⟨ha1, hj2⟩ := Prod.mk.inj hj1
      obtain ⟨ha2, hj3⟩ := Prod.mk.inj hj2
      obtain ⟨ha3, hj4⟩ := Prod.mk.inj hj3
      subst ha0
      subst ha1
      subst ha2
      subst ha3
      subst hj4
      exact hret _ _ _ _ dX0_readAct_193 rfl hP hD hS
    · rw [if_neg c34] at hf
      refine lv_iconst (v := 1) hx hb dX0_readAct_188 (by decide) ?_
      refine lv_goto (tgt := 193) hx hb dX0_readAct_189 (by decide) ?_
      have hj0 := Option.some.inj hf
      obtain ⟨ha0, hj1⟩ := Prod.mk.inj hj0
      obtain ⟨ha1, hj2⟩ := Prod.mk.inj hj1
      obtain ⟨ha2, hj3⟩ := Prod.mk.inj hj2
      obtain ⟨ha3, hj4⟩ := Prod.mk.inj hj3
      subst ha0
      subst ha1
      subst ha2
      subst ha3
      subst hj4
      exact hret _ _ _ _ dX0_readAct_193 rfl hP hD hS
  intro H locs ls hl hP hD hS
  have hl : lv_has ls 3 [(0, .ref q0), (1, .ref q1), (2, .int p2)] := hl
  unfold fX0_readAct at hf
  refine lv_aload_n hx hb dX0_readAct_0 rfl (lv_at hl 0 rfl) ?_
  refine gf_RX0_11 C hP 0 rfl rfl dX0_readAct_1 ?_
  refine lv_iload_n hx hb dX0_readAct_4 rfl (lv_at hl 2 rfl) ?_
  refine lv_aload_n hx hb dX0_readAct_5 rfl (lv_at hl 1 rfl) ?_
  obtain ⟨o1, hg2, hf⟩ := bd_some hf
  refine k_VI (As := []) C K_RX0_43 (Nat.le_of_ble_eq_true rfl) (Nat.le_of_ble_eq_true rfl) (kX6_peek l E q1 q1_signs i_p1_length i_p1_place i_p1_limit a_p1_signs o1 hg2) [4, 5] rfl rfl rfl (ci := 6) rfl rfl (q0 := 0) rfl hP hD hS hA hl.1 (Nat.le_of_ble_eq_true rfl) rfl dX0_readAct_6 (fun H locs hP hD hS => ?_)
  have hP : va_P E.1 classes (WX0_readAct E q0 q0_kind q0_first q0_second q1 q1_signs i_size a_kind a_first a_second i_p1_length i_p1_place i_p1_limit a_p1_signs) H := hP
  have hD : va_D A (WX0_readAct E q0 q0_kind q0_first q0_second q1 q1_signs i_size a_kind a_first a_second i_p1_length i_p1_place i_p1_limit a_p1_signs) := hD
  obtain ⟨g3, hf⟩ := gd_some hf
  refine va_iast hx hb C.2.2.2.2.2.1 hP hD hS 1 0 rfl rfl (vin_in g3) dX0_readAct_9 (fun H locs hP hD hS => ?_)
  have hP : va_P E.1 classes (WX0_readAct E q0 q0_kind q0_first q0_second q1 q1_signs i_size ((upd a_kind (p2 : Int32).toNatClampNeg o1)) a_first a_second i_p1_length i_p1_place i_p1_limit a_p1_signs) H := hP
  have hD : va_D A (WX0_readAct E q0 q0_kind q0_first q0_second q1 q1_signs i_size ((upd a_kind (p2 : Int32).toNatClampNeg o1)) a_first a_second i_p1_length i_p1_place i_p1_limit a_p1_signs) := hD
  refine lv_aload_n hx hb dX0_readAct_10 rfl (lv_at hl 0 rfl) ?_
  refine gf_RX0_11 C hP 0 rfl rfl dX0_readAct_11 ?_
  refine lv_iload_n hx hb dX0_readAct_14 rfl (lv_at hl 2 rfl) ?_
  obtain ⟨g4, hf⟩ := gd_some hf
  refine va_iald hx hb C.2.2.2.2.2.1 hP 1 0 rfl rfl (vin_in g4) dX0_readAct_15 ?_
  by_cases c5 : ((((upd a_kind (p2 : Int32).toNatClampNeg o1)) (p2 : Int32).toNatClampNeg)) = 99
  · rw [if_pos c5] at hf
    refine lv_lookup hx hb dX0_readAct_16 (by decide) (off := 82) (by rw [c5]; decide) (tgt := 98) (by decide) ?_
    refine lv_aload_n hx hb dX0_readAct_98 rfl (lv_at hl 1 rfl) ?_
    obtain ⟨o6, hg7, hf⟩ := bd_some hf
    refine k_VV (As := []) C K_RX0_47 (Nat.le_of_ble_eq_true rfl) (Nat.le_of_ble_eq_true rfl) (kX6_skip l E q1 q1_signs i_p1_length i_p1_place i_p1_limit o6 hg7) [4] rfl rfl rfl (ci := 6) rfl rfl (q0 := 0) rfl hP hD hS hA hl.1 (Nat.le_of_ble_eq_true rfl) rfl dX0_readAct_99 (fun H locs hP hD hS => ?_)
    have hP : va_P E.1 classes (WX0_readAct E q0 q0_kind q0_first q0_second q1 q1_signs i_size ((upd a_kind (p2 : Int32).toNatClampNeg o1)) a_first a_second i_p1_length o6 i_p1_limit a_p1_signs) H := hP
    have hD : va_D A (WX0_readAct E q0 q0_kind q0_first q0_second q1 q1_signs i_size ((upd a_kind (p2 : Int32).toNatClampNeg o1)) a_first a_second i_p1_length o6 i_p1_limit a_p1_signs) := hD
    refine lv_aload_n hx hb dX0_readAct_102 rfl (lv_at hl 0 rfl) ?_
    refine gf_RX0_15 C hP 0 rfl rfl dX0_readAct_103 ?_
    refine lv_iload_n hx hb dX0_readAct_106 rfl (lv_at hl 2 rfl) ?_
    refine lv_aload_n hx hb dX0_readAct_107 rfl (lv_at hl 1 rfl) ?_
    refine lv_iconst (v := 0) hx hb dX0_readAct_108 (by decide) ?_
    refine lv_bipush (v := 9) hx hb dX0_readAct_109 (by decide) ?_
    obtain ⟨o8, hg9, hf⟩ := bd_some hf
    refine k_VI (As := [.int 0, .int 9]) C K_RX0_57 (Nat.le_of_ble_eq_true rfl) (Nat.le_of_ble_eq_true rfl) (kX6_takeDigit l E q1 q1_signs i_p1_length o6 i_p1_limit a_p1_signs 0 9 o8.1 o8.2 hg9) [4, 5] rfl rfl rfl (ci := 6) rfl rfl (q0 := 0) rfl hP hD hS hA hl.1 (Nat.le_of_ble_eq_true rfl) rfl dX0_readAct_111 (fun H locs hP hD hS => ?_)
    have hP : va_P E.1 classes (WX0_readAct E q0 q0_kind q0_first q0_second q1 q1_signs i_size ((upd a_kind (p2 : Int32).toNatClampNeg o1)) a_first a_second i_p1_length o8.2 i_p1_limit a_p1_signs) H := hP
    have hD : va_D A (WX0_readAct E q0 q0_kind q0_first q0_second q1 q1_signs i_size ((upd a_kind (p2 : Int32).toNatClampNeg o1)) a_first a_second i_p1_length o8.2 i_p1_limit a_p1_signs) := hD
    obtain ⟨g10, hf⟩ := gd_some hf
    refine va_iast hx hb C.2.2.2.2.2.1 hP hD hS 2 0 rfl rfl (vin_in g10) dX0_readAct_114 (fun H locs hP hD hS => ?_)
    have hP : va_P E.1 classes (WX0_readAct E q0 q0_kind q0_first q0_second q1 q1_signs i_size ((upd a_kind (p2 : Int32).toNatClampNeg o1)) ((upd a_first (p2 : Int32).toNatClampNeg o8.1)) a_second i_p1_length o8.2 i_p1_limit a_p1_signs) H := hP
    have hD : va_D A (WX0_readAct E q0 q0_kind q0_first q0_second q1 q1_signs i_size ((upd a_kind (p2 : Int32).toNatClampNeg o1)) ((upd a_first (p2 : Int32).toNatClampNeg o8.1)) a_second i_p1_length o8.2 i_p1_limit a_p1_signs) := hD
    refine lv_aload_n hx hb dX0_readAct_115 rfl (lv_at hl 0 rfl) ?_
    refine gf_RX0_15 C hP 0 rfl rfl dX0_readAct_116 ?_
    refine lv_iload_n hx hb dX0_readAct_119 rfl (lv_at hl 2 rfl) ?_
    obtain ⟨g11, hf⟩ := gd_some hf
    refine va_iald hx hb C.2.2.2.2.2.1 hP 2 0 rfl rfl (vin_in g11) dX0_readAct_120 ?_
    refine lv_if_lt (tgt := 137) hx hb dX0_readAct_121 (by decide) (fun c12 => ?_) (fun c12 => ?_)
    · rw [if_pos c12] at hf
      refine lv_iconst (v := 0) hx hb dX0_readAct_137 (by decide) ?_
      have hj0 := Option.some.inj hf
      obtain ⟨ha0, hj1⟩ := Prod.mk.inj hj0
      obtain ⟨ha1, hj2⟩ := Prod.mk.inj hj1
      obtain ⟨ha2, hj3⟩ := Prod.mk.inj hj2
      obtain ⟨ha3, hj4⟩ := Prod.mk.inj hj3
      subst ha0
      subst ha1
      subst ha2
      subst ha3
      subst hj4
      exact hret _ _ _ _ dX0_readAct_138 rfl hP hD hS
    · rw [if_neg c12] at hf
      refine lv_aload_n hx hb dX0_readAct_124 rfl (lv_at hl 0 rfl) ?_
      refine lv_aload_n hx hb dX0_readAct_125 rfl (lv_at hl 1 rfl) ?_
      refine lv_iload_n hx hb dX0_readAct_126 rfl (lv_at hl 2 rfl) ?_
      obtain ⟨o13, hg14, hf⟩ := bd_some hf
      refine k_VI (As := [.ref q1, .int p2]) C K_RX0_54 (Nat.le_of_ble_eq_true rfl) (Nat.le_of_ble_eq_true rfl) (kX0_readInches l E q0 q0_kind q0_first q0_second q1 q1_signs i_size a_second i_p1_length o8.2 i_p1_limit a_p1_signs p2 o13.1 o13.2.1 o13.2.2 hg14) [0, 3, 4, 5] rfl rfl rfl (ci := 0) rfl rfl (q0 := 0) rfl hP hD hS hA hl.1 (Nat.le_of_ble_eq_true rfl) rfl dX0_readAct_127 (fun H locs hP hD hS => ?_)
      have hP : va_P E.1 classes (WX0_readAct E q0 q0_kind q0_first q0_second q1 q1_signs i_size ((upd a_kind (p2 : Int32).toNatClampNeg o1)) ((upd a_first (p2 : Int32).toNatClampNeg o8.1)) o13.2.1 i_p1_length o13.2.2 i_p1_limit a_p1_signs) H := hP
      have hD : va_D A (WX0_readAct E q0 q0_kind q0_first q0_second q1 q1_signs i_size ((upd a_kind (p2 : Int32).toNatClampNeg o1)) ((upd a_first (p2 : Int32).toNatClampNeg o8.1)) o13.2.1 i_p1_length o13.2.2 i_p1_limit a_p1_signs) := hD
      refine lv_if_eq (tgt := 137) hx hb dX0_readAct_130 (by decide) (fun c15 => ?_) (fun c15 => ?_)
      · rw [if_pos c15] at hf
        refine lv_iconst (v := 0) hx hb dX0_readAct_137 (by decide) ?_
        have hj0 := Option.some.inj hf
        obtain ⟨ha0, hj1⟩ := Prod.mk.inj hj0
        obtain ⟨ha1, hj2⟩ := Prod.mk.inj hj1
        obtain ⟨ha2, hj3⟩ := Prod.mk.inj hj2
        obtain ⟨ha3, hj4⟩ := Prod.mk.inj hj3
        subst ha0
        subst ha1
        subst ha2
        subst ha3
        subst hj4
        exact hret _ _ _ _ dX0_readAct_138 rfl hP hD hS
      · rw [if_neg c15] at hf
        refine lv_iconst (v := 1) hx hb dX0_readAct_133 (by decide) ?_
        refine lv_goto (tgt := 138) hx hb dX0_readAct_134 (by decide) ?_
        have hj0 := Option.some.inj hf
        obtain ⟨ha0, hj1⟩ := Prod.mk.inj hj0
        obtain ⟨ha1, hj2⟩ := Prod.mk.inj hj1
        obtain ⟨ha2, hj3⟩ := Prod.mk.inj hj2
        obtain ⟨ha3, hj4⟩ := Prod.mk.inj hj3
        subst ha0
        subst ha1
        subst ha2
        subst ha3
        subst hj4
        exact hret _ _ _ _ dX0_readAct_138 rfl hP hD hS
  · rw [if_neg c5] at hf
    by_cases c16 : ((((upd a_kind (p2 : Int32).toNatClampNeg o1)) (p2 : Int32).toNatClampNeg)) = 100
    · rw [if_pos c16] at hf
      refine lv_lookup hx hb dX0_readAct_16 (by decide) (off := 178) (by rw [c16]; decide) (tgt := 194) (by decide) ?_
      refine lv_aload_n hx hb dX0_readAct_194 rfl (lv_at hl 1 rfl) ?_
      obtain ⟨o17, hg18, hf⟩ := bd_some hf
      refine k_VV (As := []) C K_RX0_47 (Nat.le_of_ble_eq_true rfl) (Nat.le_of_ble_eq_true rfl) (kX6_skip l E q1 q1_signs i_p1_length i_p1_place i_p1_limit o17 hg18) [4] rfl rfl rfl (ci := 6) rfl rfl (q0 := 0) rfl hP hD hS hA hl.1 (Nat.le_of_ble_eq_true rfl) rfl dX0_readAct_195 (fun H locs hP hD hS => ?_)
      have hP : va_P E.1 classes (WX0_readAct E q0 q0_kind q0_first q0_second q1 q1_signs i_size ((upd a_kind (p2 : Int32).toNatClampNeg o1)) a_first a_second i_p1_length o17 i_p1_limit a_p1_signs) H := hP
      have hD : va_D A (WX0_readAct E q0 q0_kind q0_first q0_second q1 q1_signs i_size ((upd a_kind (p2 : Int32).toNatClampNeg o1)) a_first a_second i_p1_length o17 i_p1_limit a_p1_signs) := hD
      refine lv_aload_n hx hb dX0_readAct_198 rfl (lv_at hl 0 rfl) ?_
      refine gf_RX0_15 C hP 0 rfl rfl dX0_readAct_199 ?_
      refine lv_iload_n hx hb dX0_readAct_202 rfl (lv_at hl 2 rfl) ?_
      refine lv_iconst (v := 1) hx hb dX0_readAct_203 (by decide) ?_
      refine lv_aload_n hx hb dX0_readAct_204 rfl (lv_at hl 1 rfl) ?_
      refine lv_iconst (v := 1) hx hb dX0_readAct_205 (by decide) ?_
      refine lv_bipush (v := 9) hx hb dX0_readAct_206 (by decide) ?_
      obtain ⟨o19, hg20, hf⟩ := bd_some hf
      refine k_VI (As := [.int 1, .int 9]) C K_RX0_57 (Nat.le_of_ble_eq_true rfl) (Nat.le_of_ble_eq_true rfl) (kX6_takeDigit l E q1 q1_signs i_p1_length o17 i_p1_limit a_p1_signs 1 9 o19.1 o19.2 hg20) [4, 5] rfl rfl rfl (ci := 6) rfl rfl (q0 := 0) rfl hP hD hS hA hl.1 (Nat.le_of_ble_eq_true rfl) rfl dX0_readAct_208 (fun H locs hP hD hS => ?_)
      have hP : va_P E.1 classes (WX0_readAct E q0 q0_kind q0_first q0_second q1 q1_signs i_size ((upd a_kind (p2 : Int32).toNatClampNeg o1)) a_first a_second i_p1_length o19.2 i_p1_limit a_p1_signs) H := hP
      have hD : va_D A (WX0_readAct E q0 q0_kind q0_first q0_second q1 q1_signs i_size ((upd a_kind (p2 : Int32).toNatClampNeg o1)) a_first a_second i_p1_length o19.2 i_p1_limit a_p1_signs) := hD
      refine r_max C q905 (Nat.le_of_ble_eq_true rfl) hl.1 (Nat.le_of_ble_eq_true rfl) dX0_readAct_211 ?_
      obtain ⟨g21, hf⟩ := gd_some hf
      refine va_iast hx hb C.2.2.2.2.2.1 hP hD hS 2 0 rfl rfl (vin_in g21) dX0_readAct_214 (fun H locs hP hD hS => ?_)
      have hP : va_P E.1 classes (WX0_readAct E q0 q0_kind q0_first q0_second q1 q1_signs i_size ((upd a_kind (p2 : Int32).toNatClampNeg o1)) ((upd a_first (p2 : Int32).toNatClampNeg ((mx 1 o19.1)))) a_second i_p1_length o19.2 i_p1_limit a_p1_signs) H := hP
      have hD : va_D A (WX0_readAct E q0 q0_kind q0_first q0_second q1 q1_signs i_size ((upd a_kind (p2 : Int32).toNatClampNeg o1)) ((upd a_first (p2 : Int32).toNatClampNeg ((mx 1 o19.1)))) a_second i_p1_length o19.2 i_p1_limit a_p1_signs) := hD
      refine lv_iconst (v := 1) hx hb dX0_readAct_215 (by decide) ?_
      have hj0 := Option.some.inj hf
      obtain ⟨ha0, hj1⟩ := Prod.mk.inj hj0
      obtain ⟨ha1, hj2⟩ := Prod.mk.inj hj1
      obtain ⟨ha2, hj3⟩ := Prod.mk.inj hj2
      obtain ⟨ha3, hj4⟩ := Prod.mk.inj hj3
      subst ha0
      subst ha1
      subst ha2
      subst ha3
      subst hj4
      exact hret _ _ _ _ dX0_readAct_216 rfl hP hD hS
    · rw [if_neg c16] at hf
      by_cases c22 : ((((upd a_kind (p2 : Int32).toNatClampNeg o1)) (p2 : Int32).toNatClampNeg)) = 108
      · rw [if_pos c22] at hf
        refine lv_lookup hx hb dX0_readAct_16 (by decide) (off := 123) (by rw [c22]; decide) (tgt := 139) (by decide) ?_
        refine lv_aload_n hx hb dX0_readAct_139 rfl (lv_at hl 1 rfl) ?_
        obtain ⟨o23, hg24, hf⟩ := bd_some hf
        refine k_VV (As := []) C K_RX0_47 (Nat.le_of_ble_eq_true rfl) (Nat.le_of_ble_eq_true rfl) (kX6_skip l E q1 q1_signs i_p1_length i_p1_place i_p1_limit o23 hg24) [4] rfl rfl rfl (ci := 6) rfl rfl (q0 := 0) rfl hP hD hS hA hl.1 (Nat.le_of_ble_eq_true rfl) rfl dX0_readAct_140 (fun H locs hP hD hS => ?_)
        have hP : va_P E.1 classes (WX0_readAct E q0 q0_kind q0_first q0_second q1 q1_signs i_size ((upd a_kind (p2 : Int32).toNatClampNeg o1)) a_first a_second i_p1_length o23 i_p1_limit a_p1_signs) H := hP
        have hD : va_D A (WX0_readAct E q0 q0_kind q0_first q0_second q1 q1_signs i_size ((upd a_kind (p2 : Int32).toNatClampNeg o1)) a_first a_second i_p1_length o23 i_p1_limit a_p1_signs) := hD
        refine lv_aload_n hx hb dX0_readAct_143 rfl (lv_at hl 0 rfl) ?_
        refine gf_RX0_15 C hP 0 rfl rfl dX0_readAct_144 ?_
        refine lv_iload_n hx hb dX0_readAct_147 rfl (lv_at hl 2 rfl) ?_
        refine lv_aload_n hx hb dX0_readAct_148 rfl (lv_at hl 1 rfl) ?_
        refine lv_iconst (v := 0) hx hb dX0_readAct_149 (by decide) ?_
        refine lv_bipush (v := 9) hx hb dX0_readAct_150 (by decide) ?_
        obtain ⟨o25, hg26, hf⟩ := bd_some hf
        refine k_VI (As := [.int 0, .int 9]) C K_RX0_57 (Nat.le_of_ble_eq_true rfl) (Nat.le_of_ble_eq_true rfl) (kX6_takeDigit l E q1 q1_signs i_p1_length o23 i_p1_limit a_p1_signs 0 9 o25.1 o25.2 hg26) [4, 5] rfl rfl rfl (ci := 6) rfl rfl (q0 := 0) rfl hP hD hS hA hl.1 (Nat.le_of_ble_eq_true rfl) rfl dX0_readAct_152 (fun H locs hP hD hS => ?_)
        have hP : va_P E.1 classes (WX0_readAct E q0 q0_kind q0_first q0_second q1 q1_signs i_size ((upd a_kind (p2 : Int32).toNatClampNeg o1)) a_first a_second i_p1_length o25.2 i_p1_limit a_p1_signs) H := hP
        have hD : va_D A (WX0_readAct E q0 q0_kind q0_first q0_second q1 q1_signs i_size ((upd a_kind (p2 : Int32).toNatClampNeg o1)) a_first a_second i_p1_length o25.2 i_p1_limit a_p1_signs) := hD
        obtain ⟨g27, hf⟩ := gd_some hf
        refine va_iast hx hb C.2.2.2.2.2.1 hP hD hS 2 0 rfl rfl (vin_in g27) dX0_readAct_155 (fun H locs hP hD hS => ?_)
        have hP : va_P E.1 classes (WX0_readAct E q0 q0_kind q0_first q0_second q1 q1_signs i_size ((upd a_kind (p2 : Int32).toNatClampNeg o1)) ((upd a_first (p2 : Int32).toNatClampNeg o25.1)) a_second i_p1_length o25.2 i_p1_limit a_p1_signs) H := hP
        have hD : va_D A (WX0_readAct E q0 q0_kind q0_first q0_second q1 q1_signs i_size ((upd a_kind (p2 : Int32).toNatClampNeg o1)) ((upd a_first (p2 : Int32).toNatClampNeg o25.1)) a_second i_p1_length o25.2 i_p1_limit a_p1_signs) := hD
        refine lv_aload_n hx hb dX0_readAct_156 rfl (lv_at hl 0 rfl) ?_
        refine gf_RX0_18 C hP 0 rfl rfl dX0_readAct_157 ?_
        refine lv_iload_n hx hb dX0_readAct_160 rfl (lv_at hl 2 rfl) ?_
        refine lv_aload_n hx hb dX0_readAct_161 rfl (lv_at hl 0 rfl) ?_
        refine gf_RX0_15 C hP 0 rfl rfl dX0_readAct_162 ?_
        refine lv_iload_n hx hb dX0_readAct_165 rfl (lv_at hl 2 rfl) ?_
        obtain ⟨g28, hf⟩ := gd_some hf
        refine va_iald hx hb C.2.2.2.2.2.1 hP 2 0 rfl rfl (vin_in g28) dX0_readAct_166 ?_
        refine lv_if_ge (tgt := 174) hx hb dX0_readAct_167 (by decide) (fun c29 => ?_) (fun c29 => ?_)
        · rw [if_pos c29] at hf
          refine lv_aload_n hx hb dX0_readAct_174 rfl (lv_at hl 1 rfl) ?_
          obtain ⟨o30, hg31, hf⟩ := bd_some hf
          refine k_SI (As := [.ref q1]) C K_RX0_50 (Nat.le_of_ble_eq_true rfl) (Nat.le_of_ble_eq_true rfl) (kX0_readSide l E q1 q1_signs i_p1_length o25.2 i_p1_limit a_p1_signs o30.1 o30.2 hg31) [4, 5] rfl rfl rfl  hP hD hS hA hl.1 (Nat.le_of_ble_eq_true rfl) rfl dX0_readAct_175 (fun H locs hP hD hS => ?_)
          have hP : va_P E.1 classes (WX0_readAct E q0 q0_kind q0_first q0_second q1 q1_signs i_size ((upd a_kind (p2 : Int32).toNatClampNeg o1)) ((upd a_first (p2 : Int32).toNatClampNeg o25.1)) a_second i_p1_length o30.2 i_p1_limit a_p1_signs) H := hP
          have hD : va_D A (WX0_readAct E q0 q0_kind q0_first q0_second q1 q1_signs i_size ((upd a_kind (p2 : Int32).toNatClampNeg o1)) ((upd a_first (p2 : Int32).toNatClampNeg o25.1)) a_second i_p1_length o30.2 i_p1_limit a_p1_signs) := hD
          exact J178 o30.1 p2 ((upd a_kind (p2 : Int32).toNatClampNeg o1)) ((upd a_first (p2 : Int32).toNatClampNeg o25.1)) a_second o30.2 hf _ _ _ (lv_sub hl [0, 2] rfl) hP hD hS
        · rw [if_neg c29] at hf
          refine lv_iconst (v := (-1)) hx hb dX0_readAct_170 (by decide) ?_
          refine lv_goto (tgt := 178) hx hb dX0_readAct_171 (by decide) ?_
          exact J178 ((-1)) p2 ((upd a_kind (p2 : Int32).toNatClampNeg o1)) ((upd a_first (p2 : Int32).toNatClampNeg o25.1)) a_second o25.2 hf _ _ _ (lv_sub hl [0, 2] rfl) hP hD hS
      · rw [if_neg c22] at hf
        by_cases c35 : ((((upd a_kind (p2 : Int32).toNatClampNeg o1)) (p2 : Int32).toNatClampNeg)) = 115
        · rw [if_pos c35] at hf
          refine lv_lookup hx hb dX0_readAct_16 (by decide) (off := 44) (by rw [c35]; decide) (tgt := 60) (by decide) ?_
          refine lv_aload_n hx hb dX0_readAct_60 rfl (lv_at hl 1 rfl) ?_
          obtain ⟨o36, hg37, hf⟩ := bd_some hf
          refine k_VV (As := []) C K_RX0_47 (Nat.le_of_ble_eq_true rfl) (Nat.le_of_ble_eq_true rfl) (kX6_skip l E q1 q1_signs i_p1_length i_p1_place i_p1_limit o36 hg37) [4] rfl rfl rfl (ci := 6) rfl rfl (q0 := 0) rfl hP hD hS hA hl.1 (Nat.le_of_ble_eq_true rfl) rfl dX0_readAct_61 (fun H locs hP hD hS => ?_)
          have hP : va_P E.1 classes (WX0_readAct E q0 q0_kind q0_first q0_second q1 q1_signs i_size ((upd a_kind (p2 : Int32).toNatClampNeg o1)) a_first a_second i_p1_length o36 i_p1_limit a_p1_signs) H := hP
          have hD : va_D A (WX0_readAct E q0 q0_kind q0_first q0_second q1 q1_signs i_size ((upd a_kind (p2 : Int32).toNatClampNeg o1)) a_first a_second i_p1_length o36 i_p1_limit a_p1_signs) := hD
          refine lv_aload_n hx hb dX0_readAct_64 rfl (lv_at hl 0 rfl) ?_
          refine gf_RX0_15 C hP 0 rfl rfl dX0_readAct_65 ?_
          refine lv_iload_n hx hb dX0_readAct_68 rfl (lv_at hl 2 rfl) ?_
          refine lv_aload_n hx hb dX0_readAct_69 rfl (lv_at hl 1 rfl) ?_
          obtain ⟨o38, hg39, hf⟩ := bd_some hf
          refine k_SI (As := [.ref q1]) C K_RX0_50 (Nat.le_of_ble_eq_true rfl) (Nat.le_of_ble_eq_true rfl) (kX0_readSide l E q1 q1_signs i_p1_length o36 i_p1_limit a_p1_signs o38.1 o38.2 hg39) [4, 5] rfl rfl rfl  hP hD hS hA hl.1 (Nat.le_of_ble_eq_true rfl) rfl dX0_readAct_70 (fun H locs hP hD hS => ?_)
          have hP : va_P E.1 classes (WX0_readAct E q0 q0_kind q0_first q0_second q1 q1_signs i_size ((upd a_kind (p2 : Int32).toNatClampNeg o1)) a_first a_second i_p1_length o38.2 i_p1_limit a_p1_signs) H := hP
          have hD : va_D A (WX0_readAct E q0 q0_kind q0_first q0_second q1 q1_signs i_size ((upd a_kind (p2 : Int32).toNatClampNeg o1)) a_first a_second i_p1_length o38.2 i_p1_limit a_p1_signs) := hD
          obtain ⟨g40, hf⟩ := gd_some hf
          refine va_iast hx hb C.2.2.2.2.2.1 hP hD hS 2 0 rfl rfl (vin_in g40) dX0_readAct_73 (fun H locs hP hD hS => ?_)
          have hP : va_P E.1 classes (WX0_readAct E q0 q0_kind q0_first q0_second q1 q1_signs i_size ((upd a_kind (p2 : Int32).toNatClampNeg o1)) ((upd a_first (p2 : Int32).toNatClampNeg o38.1)) a_second i_p1_length o38.2 i_p1_limit a_p1_signs) H := hP
          have hD : va_D A (WX0_readAct E q0 q0_kind q0_first q0_second q1 q1_signs i_size ((upd a_kind (p2 : Int32).toNatClampNeg o1)) ((upd a_first (p2 : Int32).toNatClampNeg o38.1)) a_second i_p1_length o38.2 i_p1_limit a_p1_signs) := hD
          refine lv_aload_n hx hb dX0_readAct_74 rfl (lv_at hl 0 rfl) ?_
          refine gf_RX0_15 C hP 0 rfl rfl dX0_readAct_75 ?_
          refine lv_iload_n hx hb dX0_readAct_78 rfl (lv_at hl 2 rfl) ?_
          obtain ⟨g41, hf⟩ := gd_some hf
          refine va_iald hx hb C.2.2.2.2.2.1 hP 2 0 rfl rfl (vin_in g41) dX0_readAct_79 ?_
          refine lv_if_lt (tgt := 96) hx hb dX0_readAct_80 (by decide) (fun c42 => ?_) (fun c42 => ?_)
          · rw [if_pos c42] at hf
            refine lv_iconst (v := 0) hx hb dX0_readAct_96 (by decide) ?_
            have hj0 := Option.some.inj hf
            obtain ⟨ha0, hj1⟩ := Prod.mk.inj hj0
            obtain ⟨ha1, hj2⟩ := Prod.mk.inj hj1
            obtain ⟨ha2, hj3⟩ := Prod.mk.inj hj2
            obtain ⟨ha3, hj4⟩ := Prod.mk.inj hj3
            subst ha0
            subst ha1
            subst ha2
            subst ha3
            subst hj4
            exact hret _ _ _ _ dX0_readAct_97 rfl hP hD hS
          · rw [if_neg c42] at hf
            refine lv_aload_n hx hb dX0_readAct_83 rfl (lv_at hl 0 rfl) ?_
            refine lv_aload_n hx hb dX0_readAct_84 rfl (lv_at hl 1 rfl) ?_
            refine lv_iload_n hx hb dX0_readAct_85 rfl (lv_at hl 2 rfl) ?_
            obtain ⟨o43, hg44, hf⟩ := bd_some hf
            refine k_VI (As := [.ref q1, .int p2]) C K_RX0_54 (Nat.le_of_ble_eq_true rfl) (Nat.le_of_ble_eq_true rfl) (kX0_readInches l E q0 q0_kind q0_first q0_second q1 q1_signs i_size a_second i_p1_length o38.2 i_p1_limit a_p1_signs p2 o43.1 o43.2.1 o43.2.2 hg44) [0, 3, 4, 5] rfl rfl rfl (ci := 0) rfl rfl (q0 := 0) rfl hP hD hS hA hl.1 (Nat.le_of_ble_eq_true rfl) rfl dX0_readAct_86 (fun H locs hP hD hS => ?_)
            have hP : va_P E.1 classes (WX0_readAct E q0 q0_kind q0_first q0_second q1 q1_signs i_size ((upd a_kind (p2 : Int32).toNatClampNeg o1)) ((upd a_first (p2 : Int32).toNatClampNeg o38.1)) o43.2.1 i_p1_length o43.2.2 i_p1_limit a_p1_signs) H := hP
            have hD : va_D A (WX0_readAct E q0 q0_kind q0_first q0_second q1 q1_signs i_size ((upd a_kind (p2 : Int32).toNatClampNeg o1)) ((upd a_first (p2 : Int32).toNatClampNeg o38.1)) o43.2.1 i_p1_length o43.2.2 i_p1_limit a_p1_signs) := hD
            refine lv_if_eq (tgt := 96) hx hb dX0_readAct_89 (by decide) (fun c45 => ?_) (fun c45 => ?_)
            · rw [if_pos c45] at hf
              refine lv_iconst (v := 0) hx hb dX0_readAct_96 (by decide) ?_
              have hj0 := Option.some.inj hf
              obtain ⟨ha0, hj1⟩ := Prod.mk.inj hj0
              obtain ⟨ha1, hj2⟩ := Prod.mk.inj hj1
              obtain ⟨ha2, hj3⟩ := Prod.mk.inj hj2
              obtain ⟨ha3, hj4⟩ := Prod.mk.inj hj3
              subst ha0
              subst ha1
              subst ha2
              subst ha3
              subst hj4
              exact hret _ _ _ _ dX0_readAct_97 rfl hP hD hS
            · rw [if_neg c45] at hf
              refine lv_iconst (v := 1) hx hb dX0_readAct_92 (by decide) ?_
              refine lv_goto (tgt := 97) hx hb dX0_readAct_93 (by decide) ?_
              have hj0 := Option.some.inj hf
              obtain ⟨ha0, hj1⟩ := Prod.mk.inj hj0
              obtain ⟨ha1, hj2⟩ := Prod.mk.inj hj1
              obtain ⟨ha2, hj3⟩ := Prod.mk.inj hj2
              obtain ⟨ha3, hj4⟩ := Prod.mk.inj hj3
              subst ha0
              subst ha1
              subst ha2
              subst ha3
              subst hj4
              exact hret _ _ _ _ dX0_readAct_97 rfl hP hD hS
        · rw [if_neg c35] at hf
          refine lv_lookup hx hb dX0_readAct_16 (by decide) (off := 201) (by rw [lv_osw c5 (by decide), lv_osw c16 (by decide), lv_osw c22 (by decide), lv_osw c35 (by decide)]; rfl) (tgt := 217) (by decide) ?_
          refine lv_iconst (v := 0) hx hb dX0_readAct_217 (by decide) ?_
          have hj0 := Option.some.inj hf
          obtain ⟨ha0, hj1⟩ := Prod.mk.inj hj0
          obtain ⟨ha1, hj2⟩ := Prod.mk.inj hj1
          obtain ⟨ha2, hj3⟩ := Prod.mk.inj hj2
          obtain ⟨ha3, hj4⟩ := Prod.mk.inj hj3
          subst ha0
          subst ha1
          subst ha2
          subst ha3
          subst hj4
          exact hret _ _ _ _ dX0_readAct_218 rfl hP hD hS
theorem K_RX0_21 : KV RX0 21 yX6_open cX6_open 2 none 1 := ⟨Tg_mem 488 (by decide +kernel) (by decide +kernel), Tg_mem 91 (by decide +kernel) (by decide +kernel), Tg_mem 887 (by decide +kernel) (by decide +kernel), Tg_mem 486 (by decide +kernel) (by decide +kernel), Tg_mem 487 (by decide +kernel) (by decide +kernel), by decide +kernel⟩
theorem q226 : Cond.fieldLink RX0 27 "SnowForSummer$Acts" "size" "I" ∈ Tg := Tg_mem 226 (by decide +kernel) (by decide +kernel)
theorem pf_RX0_27 {p : Program} {l : Launch} {e : Env} {R : Room} {s : State} {m : MethodId} {args : Array Value} {below : List Frame} {meth : Method} {c : Code} {H : Heap} {locs : List Loc} {cells slots : Nat} {Q : State → Prop} {E : ENV} {cc : ByteArray} {n : Nat} {r : Option FieldType} {pc : Nat} {ls : Array Slot} {rest : List Value} {a : Nat} {ws : va_W} {nm ds : String} {fs : List Value} {A : Nat → Prop} {H0 : Heap} {x : Int32} (C : Cx E A ⟨RX0, nm, ds⟩ cc n r p s m args meth c) (hP : va_P E.1 classes ws H) (hD : va_D A ws) (hS : va_S A H0 H locs) (q0 : Nat) (he : ws[q0]? = some (a, .inr (0, fs))) (hl : 3 < fs.length) (hdg : decode cc pc = .ok (.putfield 27, 3))
    (kk : ∀ (H1 : Heap) (locs1 : List Loc), va_P E.1 classes (ws.set q0 (a, .inr (0, fs.set 3 (.int x)))) H1 → va_D A (ws.set q0 (a, .inr (0, fs.set 3 (.int x)))) → va_S A H0 H1 locs1 → W p l e R s m args below meth c H1 locs1 cells slots Q (F0 m (pc + 3) ls rest)) : W p l e R s m args below meth c H locs cells slots Q (F0 m pc ls (.int x :: .ref a :: rest)) :=
  va_put (C := RX0) (T := TX0) (N := 4) (ty := .int) (Ts := wl ⟨RX0, nm, ds⟩ cc n r) C.1 C.2.1 C.2.2.2.2.1 (fun w h => List.mem_cons_of_mem _ (inT0 w h)) tyX0 tyX0_ok nmX0 C.2.2.2.1 C.2.2.2.2.2.1 hP hD hS q0 he rfl 3 (by decide) (C.2.2.2.2.1 _ (List.mem_cons_of_mem _ q226)) (fun _ h9 => h9) rfl (by decide +kernel) rfl rfl hl hdg kk
theorem K_RX0_31 : KV RX0 31 yX6_isThrough cX6_isThrough 1 (some .boolean) 0 := ⟨Tg_mem 495 (by decide +kernel) (by decide +kernel), Tg_mem 91 (by decide +kernel) (by decide +kernel), Tg_mem 888 (by decide +kernel) (by decide +kernel), Tg_mem 493 (by decide +kernel) (by decide +kernel), Tg_mem 494 (by decide +kernel) (by decide +kernel), by decide +kernel⟩
theorem K_RX0_35 : KV RX0 35 yX0_readAct cX0_readAct 3 (some .boolean) 2 := ⟨Tg_mem 892 (by decide +kernel) (by decide +kernel), Tg_mem 95 (by decide +kernel) (by decide +kernel), Tg_mem 889 (by decide +kernel) (by decide +kernel), Tg_mem 891 (by decide +kernel) (by decide +kernel), Tg_mem 19 (by decide +kernel) (by decide +kernel), by decide +kernel⟩
theorem gf_RX0_27 {p : Program} {l : Launch} {e : Env} {R : Room} {s : State} {m : MethodId} {args : Array Value} {below : List Frame} {meth : Method} {c : Code} {H : Heap} {locs : List Loc} {cells slots : Nat} {Q : State → Prop} {E : ENV} {cc : ByteArray} {n : Nat} {r : Option FieldType} {pc : Nat} {ls : Array Slot} {rest : List Value} {a : Nat} {ws : va_W} {nm ds : String} {fs : List Value} {A : Nat → Prop} {v : Value} (C : Cx E A ⟨RX0, nm, ds⟩ cc n r p s m args meth c) (hP : va_P E.1 classes ws H) (q0 : Nat) (he : ws[q0]? = some (a, .inr (0, fs))) (hv : fs[3]? = some v) (hdg : decode cc pc = .ok (.getfield 27, 3))
    (kk : W p l e R s m args below meth c H locs cells slots Q (F0 m (pc + 3) ls (v :: rest))) : W p l e R s m args below meth c H locs cells slots Q (F0 m pc ls (.ref a :: rest)) :=
  va_get (C := RX0) (T := TX0) (N := 4) (Ts := wl ⟨RX0, nm, ds⟩ cc n r) C.1 C.2.1 C.2.2.2.2.1 (fun w h => List.mem_cons_of_mem _ (inT0 w h)) C.2.2.2.1 C.2.2.2.2.2.1 hP q0 he rfl 3 (by decide) (C.2.2.2.2.1 _ (List.mem_cons_of_mem _ q226)) (fun _ h9 => h9) hv hdg kk
theorem dX0_read_0 : decode cX0_read 0 = .ok (.aload_n 1, 1) := by decide +kernel
theorem dX0_read_1 : decode cX0_read 1 = .ok (.bipush 60, 2) := by decide +kernel
theorem dX0_read_3 : decode cX0_read 3 = .ok (.invokevirtual 21, 3) := by decide +kernel
theorem dX0_read_6 : decode cX0_read 6 = .ok (.aload_n 0, 1) := by decide +kernel
theorem dX0_read_7 : decode cX0_read 7 = .ok (.iconst 0, 1) := by decide +kernel
theorem dX0_read_8 : decode cX0_read 8 = .ok (.putfield 27, 3) := by decide +kernel
theorem dX0_read_11 : decode cX0_read 11 = .ok (.aload_n 1, 1) := by decide +kernel
theorem dX0_read_12 : decode cX0_read 12 = .ok (.invokevirtual 31, 3) := by decide +kernel
theorem dX0_read_15 : decode cX0_read 15 = .ok (.ifCond .eq 5, 3) := by decide +kernel
theorem dX0_read_18 : decode cX0_read 18 = .ok (.iconst 1, 1) := by decide +kernel
theorem dX0_read_19 : decode cX0_read 19 = .ok (.ireturn, 1) := by decide +kernel
theorem dX0_read_20 : decode cX0_read 20 = .ok (.iconst 0, 1) := by decide +kernel
theorem dX0_read_21 : decode cX0_read 21 = .ok (.istore_n 2, 1) := by decide +kernel
theorem dX0_read_22 : decode cX0_read 22 = .ok (.iload_n 2, 1) := by decide +kernel
theorem dX0_read_23 : decode cX0_read 23 = .ok (.bipush 30, 2) := by decide +kernel
theorem dX0_read_25 : decode cX0_read 25 = .ok (.if_icmp .ge 44, 3) := by decide +kernel
theorem dX0_read_28 : decode cX0_read 28 = .ok (.aload_n 0, 1) := by decide +kernel
theorem dX0_read_29 : decode cX0_read 29 = .ok (.aload_n 1, 1) := by decide +kernel
theorem dX0_read_30 : decode cX0_read 30 = .ok (.iload_n 2, 1) := by decide +kernel
theorem dX0_read_31 : decode cX0_read 31 = .ok (.invokevirtual 35, 3) := by decide +kernel
theorem dX0_read_34 : decode cX0_read 34 = .ok (.ifCond .ne 5, 3) := by decide +kernel
theorem dX0_read_37 : decode cX0_read 37 = .ok (.iconst 0, 1) := by decide +kernel
theorem dX0_read_38 : decode cX0_read 38 = .ok (.ireturn, 1) := by decide +kernel
theorem dX0_read_39 : decode cX0_read 39 = .ok (.aload_n 0, 1) := by decide +kernel
theorem dX0_read_40 : decode cX0_read 40 = .ok (.dup, 1) := by decide +kernel
theorem dX0_read_41 : decode cX0_read 41 = .ok (.getfield 27, 3) := by decide +kernel
theorem dX0_read_44 : decode cX0_read 44 = .ok (.iconst 1, 1) := by decide +kernel
theorem dX0_read_45 : decode cX0_read 45 = .ok (.iadd, 1) := by decide +kernel
theorem dX0_read_46 : decode cX0_read 46 = .ok (.putfield 27, 3) := by decide +kernel
theorem dX0_read_49 : decode cX0_read 49 = .ok (.aload_n 1, 1) := by decide +kernel
theorem dX0_read_50 : decode cX0_read 50 = .ok (.bipush 59, 2) := by decide +kernel
theorem dX0_read_52 : decode cX0_read 52 = .ok (.invokevirtual 39, 3) := by decide +kernel
theorem dX0_read_55 : decode cX0_read 55 = .ok (.ifCond .ne 8, 3) := by decide +kernel
theorem dX0_read_58 : decode cX0_read 58 = .ok (.aload_n 1, 1) := by decide +kernel
theorem dX0_read_59 : decode cX0_read 59 = .ok (.invokevirtual 31, 3) := by decide +kernel
theorem dX0_read_62 : decode cX0_read 62 = .ok (.ireturn, 1) := by decide +kernel
theorem dX0_read_63 : decode cX0_read 63 = .ok (.iinc 2 1, 3) := by decide +kernel
theorem dX0_read_66 : decode cX0_read 66 = .ok (.goto (-44), 3) := by decide +kernel
theorem dX0_read_69 : decode cX0_read 69 = .ok (.iconst 0, 1) := by decide +kernel
theorem dX0_read_70 : decode cX0_read 70 = .ok (.ireturn, 1) := by decide +kernel
def WX0_read (E : ENV) (q0 : Nat) (q0_kind : Nat) (q0_first : Nat) (q0_second : Nat) (q1 : Nat) (q1_signs : Nat) (i_size : Int32) (a_kind : Nat → Int32) (a_first : Nat → Int32) (a_second : Nat → Int32) (i_p1_length : Int32) (i_p1_place : Int32) (i_p1_limit : Int32) (a_p1_signs : Nat → Int32) : va_W := [(q0, .inr (0, [.ref q0_kind, .ref q0_first, .ref q0_second, .int i_size])), (q0_kind, .inl (E.2.1, 30, .inl a_kind)), (q0_first, .inl (E.2.1, 30, .inl a_first)), (q0_second, .inl (E.2.1, 30, .inl a_second)), (q1, .inr (6, [.ref q1_signs, .int i_p1_length, .int i_p1_place, .int i_p1_limit])), (q1_signs, .inl (E.2.1, 80, .inl a_p1_signs))]
set_option maxHeartbeats 4000000 in
set_option maxRecDepth 20000 in
theorem kX0_read (l : Launch) (E : ENV) (q0 : Nat) (q0_kind : Nat) (q0_first : Nat) (q0_second : Nat) (q1 : Nat) (q1_signs : Nat) (i_size : Int32) (a_kind : Nat → Int32) (a_first : Nat → Int32) (a_second : Nat → Int32) (i_p1_length : Int32) (i_p1_place : Int32) (i_p1_limit : Int32) (a_p1_signs : Nat → Int32) (r9 : Int32) (i_size9 : Int32) (a_kind9 : Nat → Int32) (a_first9 : Nat → Int32) (a_second9 : Nat → Int32) (i_p1_place9 : Int32) (i_p1_limit9 : Int32) (hf : fX0_read i_size a_kind a_first a_second i_p1_length i_p1_place i_p1_limit a_p1_signs = some (r9, i_size9, a_kind9, a_first9, a_second9, i_p1_place9, i_p1_limit9)) : CI l E yX0_read cX0_read 3 (some .boolean) 5 [.ref q0, .ref q1] (WX0_read E q0 q0_kind q0_first q0_second q1 q1_signs i_size a_kind a_first a_second i_p1_length i_p1_place i_p1_limit a_p1_signs) (WX0_read E q0 q0_kind q0_first q0_second q1 q1_signs i_size9 a_kind9 a_first9 a_second9 i_p1_length i_p1_place9 i_p1_limit9 a_p1_signs) r9 := by
  refine begI (by decide +kernel) (Nat.le_of_ble_eq_true rfl) ?_
  intro p e s m args below meth c A Q C hA hret
  have hx := C.1
  have hb := C.2.1
  have L22 : ∀ (i_p1_limit : Int32), ∀ (n : Nat) (v2 : Int32) (i_size : Int32) (a_kind : Nat → Int32) (a_first : Nat → Int32) (a_second : Nat → Int32) (i_p1_place : Int32) (o : (Int32 × (Nat → Int32) × (Nat → Int32) × (Nat → Int32) × Int32) ⊕ (Int32 × Int32 × (Nat → Int32) × (Nat → Int32) × (Nat → Int32) × Int32 × Int32)), fX0_read_L22 i_p1_length a_p1_signs i_p1_limit n v2 i_size a_kind a_first a_second i_p1_place = some o → (∀ x, o = Sum.inl x → GO p l e 5 s m args below meth c Q E A 3 69 [] [] (WX0_read E q0 q0_kind q0_first q0_second q1 q1_signs x.1 x.2.1 x.2.2.1 x.2.2.2.1 i_p1_length x.2.2.2.2 i_p1_limit a_p1_signs)) → (∀ x, o = Sum.inr x → x = (r9, i_size9, a_kind9, a_first9, a_second9, i_p1_place9, i_p1_limit9)) → GO p l e 5 s m args below meth c Q E A 3 22 [] [(0, .ref q0), (1, .ref q1), (2, .int v2)] (WX0_read E q0 q0_kind q0_first q0_second q1 q1_signs i_size a_kind a_first a_second i_p1_length i_p1_place i_p1_limit a_p1_signs) := by
    intro i_p1_limit
    intro n
    induction n with
    | zero =>
      intro v2 i_size a_kind a_first a_second i_p1_place o hf
      have hf : none = some o := hf
      cases hf
    | succ n ih =>
      intro v2 i_size a_kind a_first a_second i_p1_place o hf hE hR
      intro H locs ls hl hP hD hS
      rw [fX0_read_L22] at hf
      refine lv_iload_n hx hb dX0_read_22 rfl (lv_at hl 2 rfl) ?_
      refine lv_bipush (v := 30) hx hb dX0_read_23 (by decide) ?_
      refine lv_icmp_ge (tgt := 69) hx hb dX0_read_25 (by decide) (fun c6 => ?_) (fun c6 => ?_)
      · rw [if_pos c6] at hf
        have hf := Option.some.inj hf
        subst hf
        exact (hE _ rfl) _ _ _ (lv_sub hl [] rfl) hP hD hS
      · rw [if_neg c6] at hf
        refine lv_aload_n hx hb dX0_read_28 rfl (lv_at hl 0 rfl) ?_
        refine lv_aload_n hx hb dX0_read_29 rfl (lv_at hl 1 rfl) ?_
        refine lv_iload_n hx hb dX0_read_30 rfl (lv_at hl 2 rfl) ?_
        obtain ⟨o7, hg8, hf⟩ := bd_some hf
        refine k_VI (As := [.ref q1, .int v2]) C K_RX0_35 (Nat.le_of_ble_eq_true rfl) (Nat.le_of_ble_eq_true rfl) (kX0_readAct l E q0 q0_kind q0_first q0_second q1 q1_signs i_size a_kind a_first a_second i_p1_length i_p1_place i_p1_limit a_p1_signs v2 o7.1 o7.2.1 o7.2.2.1 o7.2.2.2.1 o7.2.2.2.2 hg8) [0, 1, 2, 3, 4, 5] rfl rfl rfl (ci := 0) rfl rfl (q0 := 0) rfl hP hD hS hA hl.1 (Nat.le_of_ble_eq_true rfl) rfl dX0_read_31 (fun H locs hP hD hS => ?_)
        have hP : va_P E.1 classes (WX0_read E q0 q0_kind q0_first q0_second q1 q1_signs i_size o7.2.1 o7.2.2.1 o7.2.2.2.1 i_p1_length o7.2.2.2.2 i_p1_limit a_p1_signs) H := hP
        have hD : va_D A (WX0_read E q0 q0_kind q0_first q0_second q1 q1_signs i_size o7.2.1 o7.2.2.1 o7.2.2.2.1 i_p1_length o7.2.2.2.2 i_p1_limit a_p1_signs) := hD
        refine lv_if_ne (tgt := 39) hx hb dX0_read_34 (by decide) (fun c9 => ?_) (fun c9 => ?_)
        · rw [if_neg c9] at hf
          refine lv_aload_n hx hb dX0_read_39 rfl (lv_at hl 0 rfl) ?_
          refine lv_dup hx hb dX0_read_40 rfl ?_
          refine gf_RX0_27 C hP 0 rfl rfl dX0_read_41 ?_
          refine lv_iconst (v := 1) hx hb dX0_read_44 (by decide) ?_
          refine lv_iadd hx hb dX0_read_45 ?_
          refine pf_RX0_27 C hP hD hS 0 rfl (Nat.le_of_ble_eq_true rfl) dX0_read_46 (fun H locs hP hD hS => ?_)
          have hP : va_P E.1 classes (WX0_read E q0 q0_kind q0_first q0_second q1 q1_signs ((i_size + 1)) o7.2.1 o7.2.2.1 o7.2.2.2.1 i_p1_length o7.2.2.2.2 i_p1_limit a_p1_signs) H := hP
          have hD : va_D A (WX0_read E q0 q0_kind q0_first q0_second q1 q1_signs ((i_size + 1)) o7.2.1 o7.2.2.1 o7.2.2.2.1 i_p1_length o7.2.2.2.2 i_p1_limit a_p1_signs) := hD
          refine lv_aload_n hx hb dX0_read_49 rfl (lv_at hl 1 rfl) ?_
          refine lv_bipush (v := 59) hx hb dX0_read_50 (by decide) ?_
          obtain ⟨o10, hg11, hf⟩ := bd_some hf
          refine k_VI (As := [.int 59]) C K_RX0_39 (Nat.le_of_ble_eq_true rfl) (Nat.le_of_ble_eq_true rfl) (kX6_take l E q1 q1_signs i_p1_length o7.2.2.2.2 i_p1_limit a_p1_signs 59 o10.1 o10.2 hg11) [4, 5] rfl rfl rfl (ci := 6) rfl rfl (q0 := 0) rfl hP hD hS hA hl.1 (Nat.le_of_ble_eq_true rfl) rfl dX0_read_52 (fun H locs hP hD hS => ?_)
          have hP : va_P E.1 classes (WX0_read E q0 q0_kind q0_first q0_second q1 q1_signs ((i_size + 1)) o7.2.1 o7.2.2.1 o7.2.2.2.1 i_p1_length o10.2 i_p1_limit a_p1_signs) H := hP
          have hD : va_D A (WX0_read E q0 q0_kind q0_first q0_second q1 q1_signs ((i_size + 1)) o7.2.1 o7.2.2.1 o7.2.2.2.1 i_p1_length o10.2 i_p1_limit a_p1_signs) := hD
          refine lv_if_ne (tgt := 63) hx hb dX0_read_55 (by decide) (fun c12 => ?_) (fun c12 => ?_)
          · rw [if_neg c12] at hf
            refine lv_iinc (v := (v2 + 1)) (lv' := [(2, .int ((v2 + 1))), (0, .ref q0), (1, .ref q1)]) hx hb dX0_read_63 hl (k := 2) rfl rfl (by decide) rfl (fun ls hl => ?_)
            refine lv_goto (tgt := 22) hx hb dX0_read_66 (by decide) ?_
            exact ih ((v2 + 1)) ((i_size + 1)) o7.2.1 o7.2.2.1 o7.2.2.2.1 o10.2 _ hf hE hR _ _ _ (lv_sub hl [1, 2, 0] rfl) hP hD hS
          · rw [if_pos c12] at hf
            refine lv_aload_n hx hb dX0_read_58 rfl (lv_at hl 1 rfl) ?_
            obtain ⟨o13, hg14, hf⟩ := bd_some hf
            refine k_VI (As := []) C K_RX0_31 (Nat.le_of_ble_eq_true rfl) (Nat.le_of_ble_eq_true rfl) (kX6_isThrough l E q1 q1_signs i_p1_length o10.2 i_p1_limit o13 hg14) [4] rfl rfl rfl (ci := 6) rfl rfl (q0 := 0) rfl hP hD hS hA hl.1 (Nat.le_of_ble_eq_true rfl) rfl dX0_read_59 (fun H locs hP hD hS => ?_)
            have hP : va_P E.1 classes (WX0_read E q0 q0_kind q0_first q0_second q1 q1_signs ((i_size + 1)) o7.2.1 o7.2.2.1 o7.2.2.2.1 i_p1_length o10.2 i_p1_limit a_p1_signs) H := hP
            have hD : va_D A (WX0_read E q0 q0_kind q0_first q0_second q1 q1_signs ((i_size + 1)) o7.2.1 o7.2.2.1 o7.2.2.2.1 i_p1_length o10.2 i_p1_limit a_p1_signs) := hD
            obtain ⟨g15, hf⟩ := gd_some hf
            have hf := Option.some.inj hf
            subst hf
            have hj0 := hR _ rfl
            obtain ⟨ha0, hj1⟩ := Prod.mk.inj hj0
            obtain ⟨ha1, hj2⟩ := Prod.mk.inj hj1
            obtain ⟨ha2, hj3⟩ := Prod.mk.inj hj2
            obtain ⟨ha3, hj4⟩ := Prod.mk.inj hj3
            obtain ⟨ha4, hj5⟩ := Prod.mk.inj hj4
            obtain ⟨ha5, hj6⟩ := Prod.mk.inj hj5
            subst ha0
            subst ha1
            subst ha2
            subst ha3
            subst ha4
            subst ha5
            subst hj6
            exact hret _ _ _ _ dX0_read_62 (isb_n g15) hP hD hS
        · rw [if_pos c9] at hf
          refine lv_iconst (v := 0) hx hb dX0_read_37 (by decide) ?_
          have hf := Option.some.inj hf
          subst hf
          have hj0 := hR _ rfl
          obtain ⟨ha0, hj1⟩ := Prod.mk.inj hj0
          obtain ⟨ha1, hj2⟩ := Prod.mk.inj hj1
          obtain ⟨ha2, hj3⟩ := Prod.mk.inj hj2
          obtain ⟨ha3, hj4⟩ := Prod.mk.inj hj3
          obtain ⟨ha4, hj5⟩ := Prod.mk.inj hj4
          obtain ⟨ha5, hj6⟩ := Prod.mk.inj hj5
          subst ha0
          subst ha1
          subst ha2
          subst ha3
          subst ha4
          subst ha5
          subst hj6
          exact hret _ _ _ _ dX0_read_38 rfl hP hD hS
  intro H locs ls hl hP hD hS
  have hl : lv_has ls 3 [(0, .ref q0), (1, .ref q1)] := hl
  unfold fX0_read at hf
  refine lv_aload_n hx hb dX0_read_0 rfl (lv_at hl 1 rfl) ?_
  refine lv_bipush (v := 60) hx hb dX0_read_1 (by decide) ?_
  obtain ⟨o1, hg2, hf⟩ := bd_some hf
  refine k_VV (As := [.int 60]) C K_RX0_21 (Nat.le_of_ble_eq_true rfl) (Nat.le_of_ble_eq_true rfl) (kX6_open l E q1 q1_signs i_p1_length i_p1_place i_p1_limit 60 o1.1 o1.2 hg2) [4] rfl rfl rfl (ci := 6) rfl rfl (q0 := 0) rfl hP hD hS hA hl.1 (Nat.le_of_ble_eq_true rfl) rfl dX0_read_3 (fun H locs hP hD hS => ?_)
  have hP : va_P E.1 classes (WX0_read E q0 q0_kind q0_first q0_second q1 q1_signs i_size a_kind a_first a_second i_p1_length o1.1 o1.2 a_p1_signs) H := hP
  have hD : va_D A (WX0_read E q0 q0_kind q0_first q0_second q1 q1_signs i_size a_kind a_first a_second i_p1_length o1.1 o1.2 a_p1_signs) := hD
  refine lv_aload_n hx hb dX0_read_6 rfl (lv_at hl 0 rfl) ?_
  refine lv_iconst (v := 0) hx hb dX0_read_7 (by decide) ?_
  refine pf_RX0_27 C hP hD hS 0 rfl (Nat.le_of_ble_eq_true rfl) dX0_read_8 (fun H locs hP hD hS => ?_)
  have hP : va_P E.1 classes (WX0_read E q0 q0_kind q0_first q0_second q1 q1_signs 0 a_kind a_first a_second i_p1_length o1.1 o1.2 a_p1_signs) H := hP
  have hD : va_D A (WX0_read E q0 q0_kind q0_first q0_second q1 q1_signs 0 a_kind a_first a_second i_p1_length o1.1 o1.2 a_p1_signs) := hD
  refine lv_aload_n hx hb dX0_read_11 rfl (lv_at hl 1 rfl) ?_
  obtain ⟨o3, hg4, hf⟩ := bd_some hf
  refine k_VI (As := []) C K_RX0_31 (Nat.le_of_ble_eq_true rfl) (Nat.le_of_ble_eq_true rfl) (kX6_isThrough l E q1 q1_signs i_p1_length o1.1 o1.2 o3 hg4) [4] rfl rfl rfl (ci := 6) rfl rfl (q0 := 0) rfl hP hD hS hA hl.1 (Nat.le_of_ble_eq_true rfl) rfl dX0_read_12 (fun H locs hP hD hS => ?_)
  have hP : va_P E.1 classes (WX0_read E q0 q0_kind q0_first q0_second q1 q1_signs 0 a_kind a_first a_second i_p1_length o1.1 o1.2 a_p1_signs) H := hP
  have hD : va_D A (WX0_read E q0 q0_kind q0_first q0_second q1 q1_signs 0 a_kind a_first a_second i_p1_length o1.1 o1.2 a_p1_signs) := hD
  refine lv_if_eq (tgt := 20) hx hb dX0_read_15 (by decide) (fun c5 => ?_) (fun c5 => ?_)
  · rw [if_pos c5] at hf
    refine lv_iconst (v := 0) hx hb dX0_read_20 (by decide) ?_
    refine lv_istore_n (lv' := [(2, .int 0), (0, .ref q0), (1, .ref q1)]) hx hb dX0_read_21 rfl hl (by decide) rfl (fun ls hl => ?_)
    obtain ⟨o16, hg17, hf⟩ := bd_some hf
    refine L22 o1.2 FU 0 0 a_kind a_first a_second o1.1 o16 hg17 ?_ ?_ _ _ _ (lv_sub hl [1, 2, 0] rfl) hP hD hS
    · intro x18 hxx
      rw [hxx, Sum.elim_inl] at hf
      intro H locs ls hl hP hD hS
      refine lv_iconst (v := 0) hx hb dX0_read_69 (by decide) ?_
      have hj0 := Option.some.inj hf
      obtain ⟨ha0, hj1⟩ := Prod.mk.inj hj0
      obtain ⟨ha1, hj2⟩ := Prod.mk.inj hj1
      obtain ⟨ha2, hj3⟩ := Prod.mk.inj hj2
      obtain ⟨ha3, hj4⟩ := Prod.mk.inj hj3
      obtain ⟨ha4, hj5⟩ := Prod.mk.inj hj4
      obtain ⟨ha5, hj6⟩ := Prod.mk.inj hj5
      subst ha0
      subst ha1
      subst ha2
      subst ha3
      subst ha4
      subst ha5
      subst hj6
      exact hret _ _ _ _ dX0_read_70 rfl hP hD hS
    · intro x hxx
      rw [hxx, Sum.elim_inr] at hf
      exact Option.some.inj hf
  · rw [if_neg c5] at hf
    refine lv_iconst (v := 1) hx hb dX0_read_18 (by decide) ?_
    have hj0 := Option.some.inj hf
    obtain ⟨ha0, hj1⟩ := Prod.mk.inj hj0
    obtain ⟨ha1, hj2⟩ := Prod.mk.inj hj1
    obtain ⟨ha2, hj3⟩ := Prod.mk.inj hj2
    obtain ⟨ha3, hj4⟩ := Prod.mk.inj hj3
    obtain ⟨ha4, hj5⟩ := Prod.mk.inj hj4
    obtain ⟨ha5, hj6⟩ := Prod.mk.inj hj5
    subst ha0
    subst ha1
    subst ha2
    subst ha3
    subst ha4
    subst ha5
    subst hj6
    exact hret _ _ _ _ dX0_read_19 rfl hP hD hS
theorem inT5 : ∀ w ∈ u_ws RX5 TX5 4, w ∈ Tg := by decide +kernel
theorem q249 : Cond.fieldLink RX5 9 "SnowForSummer$State" "snow" "[I" ∈ Tg := Tg_mem 249 (by decide +kernel) (by decide +kernel)
theorem gf_RX5_9 {p : Program} {l : Launch} {e : Env} {R : Room} {s : State} {m : MethodId} {args : Array Value} {below : List Frame} {meth : Method} {c : Code} {H : Heap} {locs : List Loc} {cells slots : Nat} {Q : State → Prop} {E : ENV} {cc : ByteArray} {n : Nat} {r : Option FieldType} {pc : Nat} {ls : Array Slot} {rest : List Value} {a : Nat} {ws : va_W} {nm ds : String} {fs : List Value} {A : Nat → Prop} {v : Value} (C : Cx E A ⟨RX5, nm, ds⟩ cc n r p s m args meth c) (hP : va_P E.1 classes ws H) (q0 : Nat) (he : ws[q0]? = some (a, .inr (5, fs))) (hv : fs[0]? = some v) (hdg : decode cc pc = .ok (.getfield 9, 3))
    (kk : W p l e R s m args below meth c H locs cells slots Q (F0 m (pc + 3) ls (v :: rest))) : W p l e R s m args below meth c H locs cells slots Q (F0 m pc ls (.ref a :: rest)) :=
  va_get (C := RX5) (T := TX5) (N := 4) (Ts := wl ⟨RX5, nm, ds⟩ cc n r) C.1 C.2.1 C.2.2.2.2.1 (fun w h => List.mem_cons_of_mem _ (inT5 w h)) C.2.2.2.1 C.2.2.2.2.2.1 hP q0 he rfl 0 (by decide) (C.2.2.2.2.1 _ (List.mem_cons_of_mem _ q249)) (fun _ h9 => h9) hv hdg kk
theorem q774 : Cond.methodLink RX5 21 arraycopyName ∈ Tg := Tg_mem 774 (by decide +kernel) (by decide +kernel)
theorem q253 : Cond.fieldLink RX5 15 "SnowForSummer$State" "path" "[I" ∈ Tg := Tg_mem 253 (by decide +kernel) (by decide +kernel)
theorem gf_RX5_15 {p : Program} {l : Launch} {e : Env} {R : Room} {s : State} {m : MethodId} {args : Array Value} {below : List Frame} {meth : Method} {c : Code} {H : Heap} {locs : List Loc} {cells slots : Nat} {Q : State → Prop} {E : ENV} {cc : ByteArray} {n : Nat} {r : Option FieldType} {pc : Nat} {ls : Array Slot} {rest : List Value} {a : Nat} {ws : va_W} {nm ds : String} {fs : List Value} {A : Nat → Prop} {v : Value} (C : Cx E A ⟨RX5, nm, ds⟩ cc n r p s m args meth c) (hP : va_P E.1 classes ws H) (q0 : Nat) (he : ws[q0]? = some (a, .inr (5, fs))) (hv : fs[1]? = some v) (hdg : decode cc pc = .ok (.getfield 15, 3))
    (kk : W p l e R s m args below meth c H locs cells slots Q (F0 m (pc + 3) ls (v :: rest))) : W p l e R s m args below meth c H locs cells slots Q (F0 m pc ls (.ref a :: rest)) :=
  va_get (C := RX5) (T := TX5) (N := 4) (Ts := wl ⟨RX5, nm, ds⟩ cc n r) C.1 C.2.1 C.2.2.2.2.1 (fun w h => List.mem_cons_of_mem _ (inT5 w h)) C.2.2.2.1 C.2.2.2.2.2.1 hP q0 he rfl 1 (by decide) (C.2.2.2.2.1 _ (List.mem_cons_of_mem _ q253)) (fun _ h9 => h9) hv hdg kk
theorem q256 : Cond.fieldLink RX5 18 "SnowForSummer$State" "debt" "[I" ∈ Tg := Tg_mem 256 (by decide +kernel) (by decide +kernel)
theorem gf_RX5_18 {p : Program} {l : Launch} {e : Env} {R : Room} {s : State} {m : MethodId} {args : Array Value} {below : List Frame} {meth : Method} {c : Code} {H : Heap} {locs : List Loc} {cells slots : Nat} {Q : State → Prop} {E : ENV} {cc : ByteArray} {n : Nat} {r : Option FieldType} {pc : Nat} {ls : Array Slot} {rest : List Value} {a : Nat} {ws : va_W} {nm ds : String} {fs : List Value} {A : Nat → Prop} {v : Value} (C : Cx E A ⟨RX5, nm, ds⟩ cc n r p s m args meth c) (hP : va_P E.1 classes ws H) (q0 : Nat) (he : ws[q0]? = some (a, .inr (5, fs))) (hv : fs[2]? = some v) (hdg : decode cc pc = .ok (.getfield 18, 3))
    (kk : W p l e R s m args below meth c H locs cells slots Q (F0 m (pc + 3) ls (v :: rest))) : W p l e R s m args below meth c H locs cells slots Q (F0 m pc ls (.ref a :: rest)) :=
  va_get (C := RX5) (T := TX5) (N := 4) (Ts := wl ⟨RX5, nm, ds⟩ cc n r) C.1 C.2.1 C.2.2.2.2.1 (fun w h => List.mem_cons_of_mem _ (inT5 w h)) C.2.2.2.1 C.2.2.2.2.2.1 hP q0 he rfl 2 (by decide) (C.2.2.2.2.1 _ (List.mem_cons_of_mem _ q256)) (fun _ h9 => h9) hv hdg kk
theorem q259 : Cond.fieldLink RX5 27 "SnowForSummer$State" "now" "I" ∈ Tg := Tg_mem 259 (by decide +kernel) (by decide +kernel)
theorem gf_RX5_27 {p : Program} {l : Launch} {e : Env} {R : Room} {s : State} {m : MethodId} {args : Array Value} {below : List Frame} {meth : Method} {c : Code} {H : Heap} {locs : List Loc} {cells slots : Nat} {Q : State → Prop} {E : ENV} {cc : ByteArray} {n : Nat} {r : Option FieldType} {pc : Nat} {ls : Array Slot} {rest : List Value} {a : Nat} {ws : va_W} {nm ds : String} {fs : List Value} {A : Nat → Prop} {v : Value} (C : Cx E A ⟨RX5, nm, ds⟩ cc n r p s m args meth c) (hP : va_P E.1 classes ws H) (q0 : Nat) (he : ws[q0]? = some (a, .inr (5, fs))) (hv : fs[3]? = some v) (hdg : decode cc pc = .ok (.getfield 27, 3))
    (kk : W p l e R s m args below meth c H locs cells slots Q (F0 m (pc + 3) ls (v :: rest))) : W p l e R s m args below meth c H locs cells slots Q (F0 m pc ls (.ref a :: rest)) :=
  va_get (C := RX5) (T := TX5) (N := 4) (Ts := wl ⟨RX5, nm, ds⟩ cc n r) C.1 C.2.1 C.2.2.2.2.1 (fun w h => List.mem_cons_of_mem _ (inT5 w h)) C.2.2.2.1 C.2.2.2.2.2.1 hP q0 he rfl 3 (by decide) (C.2.2.2.2.1 _ (List.mem_cons_of_mem _ q259)) (fun _ h9 => h9) hv hdg kk
theorem pf_RX5_27 {p : Program} {l : Launch} {e : Env} {R : Room} {s : State} {m : MethodId} {args : Array Value} {below : List Frame} {meth : Method} {c : Code} {H : Heap} {locs : List Loc} {cells slots : Nat} {Q : State → Prop} {E : ENV} {cc : ByteArray} {n : Nat} {r : Option FieldType} {pc : Nat} {ls : Array Slot} {rest : List Value} {a : Nat} {ws : va_W} {nm ds : String} {fs : List Value} {A : Nat → Prop} {H0 : Heap} {x : Int32} (C : Cx E A ⟨RX5, nm, ds⟩ cc n r p s m args meth c) (hP : va_P E.1 classes ws H) (hD : va_D A ws) (hS : va_S A H0 H locs) (q0 : Nat) (he : ws[q0]? = some (a, .inr (5, fs))) (hl : 3 < fs.length) (hdg : decode cc pc = .ok (.putfield 27, 3))
    (kk : ∀ (H1 : Heap) (locs1 : List Loc), va_P E.1 classes (ws.set q0 (a, .inr (5, fs.set 3 (.int x)))) H1 → va_D A (ws.set q0 (a, .inr (5, fs.set 3 (.int x)))) → va_S A H0 H1 locs1 → W p l e R s m args below meth c H1 locs1 cells slots Q (F0 m (pc + 3) ls rest)) : W p l e R s m args below meth c H locs cells slots Q (F0 m pc ls (.int x :: .ref a :: rest)) :=
  va_put (C := RX5) (T := TX5) (N := 4) (ty := .int) (Ts := wl ⟨RX5, nm, ds⟩ cc n r) C.1 C.2.1 C.2.2.2.2.1 (fun w h => List.mem_cons_of_mem _ (inT5 w h)) tyX5 tyX5_ok nmX5 C.2.2.2.1 C.2.2.2.2.2.1 hP hD hS q0 he rfl 3 (by decide) (C.2.2.2.2.1 _ (List.mem_cons_of_mem _ q259)) (fun _ h9 => h9) rfl (by decide +kernel) rfl rfl hl hdg kk
theorem dX5_takeFrom_0 : decode cX5_takeFrom 0 = .ok (.aload_n 1, 1) := by decide +kernel
theorem dX5_takeFrom_1 : decode cX5_takeFrom 1 = .ok (.getfield 9, 3) := by decide +kernel
theorem dX5_takeFrom_4 : decode cX5_takeFrom 4 = .ok (.iconst 0, 1) := by decide +kernel
theorem dX5_takeFrom_5 : decode cX5_takeFrom 5 = .ok (.aload_n 0, 1) := by decide +kernel
theorem dX5_takeFrom_6 : decode cX5_takeFrom 6 = .ok (.getfield 9, 3) := by decide +kernel
theorem dX5_takeFrom_9 : decode cX5_takeFrom 9 = .ok (.iconst 0, 1) := by decide +kernel
theorem dX5_takeFrom_10 : decode cX5_takeFrom 10 = .ok (.bipush 14, 2) := by decide +kernel
theorem dX5_takeFrom_12 : decode cX5_takeFrom 12 = .ok (.invokestatic 21, 3) := by decide +kernel
theorem dX5_takeFrom_15 : decode cX5_takeFrom 15 = .ok (.aload_n 1, 1) := by decide +kernel
theorem dX5_takeFrom_16 : decode cX5_takeFrom 16 = .ok (.getfield 15, 3) := by decide +kernel
theorem dX5_takeFrom_19 : decode cX5_takeFrom 19 = .ok (.iconst 0, 1) := by decide +kernel
theorem dX5_takeFrom_20 : decode cX5_takeFrom 20 = .ok (.aload_n 0, 1) := by decide +kernel
theorem dX5_takeFrom_21 : decode cX5_takeFrom 21 = .ok (.getfield 15, 3) := by decide +kernel
theorem dX5_takeFrom_24 : decode cX5_takeFrom 24 = .ok (.iconst 0, 1) := by decide +kernel
theorem dX5_takeFrom_25 : decode cX5_takeFrom 25 = .ok (.bipush 7, 2) := by decide +kernel
theorem dX5_takeFrom_27 : decode cX5_takeFrom 27 = .ok (.invokestatic 21, 3) := by decide +kernel
theorem dX5_takeFrom_30 : decode cX5_takeFrom 30 = .ok (.aload_n 1, 1) := by decide +kernel
theorem dX5_takeFrom_31 : decode cX5_takeFrom 31 = .ok (.getfield 18, 3) := by decide +kernel
theorem dX5_takeFrom_34 : decode cX5_takeFrom 34 = .ok (.iconst 0, 1) := by decide +kernel
theorem dX5_takeFrom_35 : decode cX5_takeFrom 35 = .ok (.aload_n 0, 1) := by decide +kernel
theorem dX5_takeFrom_36 : decode cX5_takeFrom 36 = .ok (.getfield 18, 3) := by decide +kernel
theorem dX5_takeFrom_39 : decode cX5_takeFrom 39 = .ok (.iconst 0, 1) := by decide +kernel
theorem dX5_takeFrom_40 : decode cX5_takeFrom 40 = .ok (.bipush 49, 2) := by decide +kernel
theorem dX5_takeFrom_42 : decode cX5_takeFrom 42 = .ok (.invokestatic 21, 3) := by decide +kernel
theorem dX5_takeFrom_45 : decode cX5_takeFrom 45 = .ok (.aload_n 0, 1) := by decide +kernel
theorem dX5_takeFrom_46 : decode cX5_takeFrom 46 = .ok (.aload_n 1, 1) := by decide +kernel
theorem dX5_takeFrom_47 : decode cX5_takeFrom 47 = .ok (.getfield 27, 3) := by decide +kernel
theorem dX5_takeFrom_50 : decode cX5_takeFrom 50 = .ok (.putfield 27, 3) := by decide +kernel
theorem dX5_takeFrom_53 : decode cX5_takeFrom 53 = .ok (.return_, 1) := by decide +kernel
def WX5_takeFrom (E : ENV) (q0 : Nat) (q0_snow : Nat) (q0_path : Nat) (q0_debt : Nat) (q1 : Nat) (q1_snow : Nat) (q1_path : Nat) (q1_debt : Nat) (i_now : Int32) (a_snow : Nat → Int32) (a_path : Nat → Int32) (a_debt : Nat → Int32) (i_p1_now : Int32) (a_p1_snow : Nat → Int32) (a_p1_path : Nat → Int32) (a_p1_debt : Nat → Int32) : va_W := [(q0, .inr (5, [.ref q0_snow, .ref q0_path, .ref q0_debt, .int i_now])), (q0_snow, .inl (E.2.1, 14, .inl a_snow)), (q0_path, .inl (E.2.1, 7, .inl a_path)), (q0_debt, .inl (E.2.1, 49, .inl a_debt)), (q1, .inr (5, [.ref q1_snow, .ref q1_path, .ref q1_debt, .int i_p1_now])), (q1_snow, .inl (E.2.1, 14, .inl a_p1_snow)), (q1_path, .inl (E.2.1, 7, .inl a_p1_path)), (q1_debt, .inl (E.2.1, 49, .inl a_p1_debt))]
set_option maxHeartbeats 4000000 in
set_option maxRecDepth 20000 in
theorem kX5_takeFrom (l : Launch) (E : ENV) (q0 : Nat) (q0_snow : Nat) (q0_path : Nat) (q0_debt : Nat) (q1 : Nat) (q1_snow : Nat) (q1_path : Nat) (q1_debt : Nat) (i_now : Int32) (a_snow : Nat → Int32) (a_path : Nat → Int32) (a_debt : Nat → Int32) (i_p1_now : Int32) (a_p1_snow : Nat → Int32) (a_p1_path : Nat → Int32) (a_p1_debt : Nat → Int32) (i_now9 : Int32) (a_snow9 : Nat → Int32) (a_path9 : Nat → Int32) (a_debt9 : Nat → Int32) (hf : fX5_takeFrom i_now a_snow a_path a_debt i_p1_now a_p1_snow a_p1_path a_p1_debt = some (i_now9, a_snow9, a_path9, a_debt9)) : CV l E yX5_takeFrom cX5_takeFrom 2 1 [.ref q0, .ref q1] (WX5_takeFrom E q0 q0_snow q0_path q0_debt q1 q1_snow q1_path q1_debt i_now a_snow a_path a_debt i_p1_now a_p1_snow a_p1_path a_p1_debt) (WX5_takeFrom E q0 q0_snow q0_path q0_debt q1 q1_snow q1_path q1_debt i_now9 a_snow9 a_path9 a_debt9 i_p1_now a_p1_snow a_p1_path a_p1_debt) := by
  refine begV (by decide +kernel) (Nat.le_of_ble_eq_true rfl) ?_
  intro p e s m args below meth c A Q C hA hret
  have hx := C.1
  have hb := C.2.1
  intro H locs ls hl hP hD hS
  have hl : lv_has ls 2 [(0, .ref q0), (1, .ref q1)] := hl
  unfold fX5_takeFrom at hf
  refine lv_aload_n hx hb dX5_takeFrom_0 rfl (lv_at hl 1 rfl) ?_
  refine gf_RX5_9 C hP 4 rfl rfl dX5_takeFrom_1 ?_
  refine lv_iconst (v := 0) hx hb dX5_takeFrom_4 (by decide) ?_
  refine lv_aload_n hx hb dX5_takeFrom_5 rfl (lv_at hl 0 rfl) ?_
  refine gf_RX5_9 C hP 0 rfl rfl dX5_takeFrom_6 ?_
  refine lv_iconst (v := 0) hx hb dX5_takeFrom_9 (by decide) ?_
  refine lv_bipush (v := 14) hx hb dX5_takeFrom_10 (by decide) ?_
  refine r_cpy C q774 (Nat.le_of_ble_eq_true rfl) hl.1 (Nat.le_of_ble_eq_true rfl) hP hD hS 5 1 14 rfl rfl (by decide) (by decide) (Nat.le_of_ble_eq_true rfl) (Nat.le_of_ble_eq_true rfl) dX5_takeFrom_12 (fun H locs hP hD hS => ?_)
  have hP : va_P E.1 classes (WX5_takeFrom E q0 q0_snow q0_path q0_debt q1 q1_snow q1_path q1_debt i_now ((cpy 14 a_p1_snow a_snow)) a_path a_debt i_p1_now a_p1_snow a_p1_path a_p1_debt) H := hP
  have hD : va_D A (WX5_takeFrom E q0 q0_snow q0_path q0_debt q1 q1_snow q1_path q1_debt i_now ((cpy 14 a_p1_snow a_snow)) a_path a_debt i_p1_now a_p1_snow a_p1_path a_p1_debt) := hD
  refine lv_aload_n hx hb dX5_takeFrom_15 rfl (lv_at hl 1 rfl) ?_
  refine gf_RX5_15 C hP 4 rfl rfl dX5_takeFrom_16 ?_
  refine lv_iconst (v := 0) hx hb dX5_takeFrom_19 (by decide) ?_
  refine lv_aload_n hx hb dX5_takeFrom_20 rfl (lv_at hl 0 rfl) ?_
  refine gf_RX5_15 C hP 0 rfl rfl dX5_takeFrom_21 ?_
  refine lv_iconst (v := 0) hx hb dX5_takeFrom_24 (by decide) ?_
  refine lv_bipush (v := 7) hx hb dX5_takeFrom_25 (by decide) ?_
  refine r_cpy C q774 (Nat.le_of_ble_eq_true rfl) hl.1 (Nat.le_of_ble_eq_true rfl) hP hD hS 6 2 7 rfl rfl (by decide) (by decide) (Nat.le_of_ble_eq_true rfl) (Nat.le_of_ble_eq_true rfl) dX5_takeFrom_27 (fun H locs hP hD hS => ?_)
  have hP : va_P E.1 classes (WX5_takeFrom E q0 q0_snow q0_path q0_debt q1 q1_snow q1_path q1_debt i_now ((cpy 14 a_p1_snow a_snow)) ((cpy 7 a_p1_path a_path)) a_debt i_p1_now a_p1_snow a_p1_path a_p1_debt) H := hP
  have hD : va_D A (WX5_takeFrom E q0 q0_snow q0_path q0_debt q1 q1_snow q1_path q1_debt i_now ((cpy 14 a_p1_snow a_snow)) ((cpy 7 a_p1_path a_path)) a_debt i_p1_now a_p1_snow a_p1_path a_p1_debt) := hD
  refine lv_aload_n hx hb dX5_takeFrom_30 rfl (lv_at hl 1 rfl) ?_
  refine gf_RX5_18 C hP 4 rfl rfl dX5_takeFrom_31 ?_
  refine lv_iconst (v := 0) hx hb dX5_takeFrom_34 (by decide) ?_
  refine lv_aload_n hx hb dX5_takeFrom_35 rfl (lv_at hl 0 rfl) ?_
  refine gf_RX5_18 C hP 0 rfl rfl dX5_takeFrom_36 ?_
  refine lv_iconst (v := 0) hx hb dX5_takeFrom_39 (by decide) ?_
  refine lv_bipush (v := 49) hx hb dX5_takeFrom_40 (by decide) ?_
  refine r_cpy C q774 (Nat.le_of_ble_eq_true rfl) hl.1 (Nat.le_of_ble_eq_true rfl) hP hD hS 7 3 49 rfl rfl (by decide) (by decide) (Nat.le_of_ble_eq_true rfl) (Nat.le_of_ble_eq_true rfl) dX5_takeFrom_42 (fun H locs hP hD hS => ?_)
  have hP : va_P E.1 classes (WX5_takeFrom E q0 q0_snow q0_path q0_debt q1 q1_snow q1_path q1_debt i_now ((cpy 14 a_p1_snow a_snow)) ((cpy 7 a_p1_path a_path)) ((cpy 49 a_p1_debt a_debt)) i_p1_now a_p1_snow a_p1_path a_p1_debt) H := hP
  have hD : va_D A (WX5_takeFrom E q0 q0_snow q0_path q0_debt q1 q1_snow q1_path q1_debt i_now ((cpy 14 a_p1_snow a_snow)) ((cpy 7 a_p1_path a_path)) ((cpy 49 a_p1_debt a_debt)) i_p1_now a_p1_snow a_p1_path a_p1_debt) := hD
  refine lv_aload_n hx hb dX5_takeFrom_45 rfl (lv_at hl 0 rfl) ?_
  refine lv_aload_n hx hb dX5_takeFrom_46 rfl (lv_at hl 1 rfl) ?_
  refine gf_RX5_27 C hP 4 rfl rfl dX5_takeFrom_47 ?_
  refine pf_RX5_27 C hP hD hS 0 rfl (Nat.le_of_ble_eq_true rfl) dX5_takeFrom_50 (fun H locs hP hD hS => ?_)
  have hP : va_P E.1 classes (WX5_takeFrom E q0 q0_snow q0_path q0_debt q1 q1_snow q1_path q1_debt i_p1_now ((cpy 14 a_p1_snow a_snow)) ((cpy 7 a_p1_path a_path)) ((cpy 49 a_p1_debt a_debt)) i_p1_now a_p1_snow a_p1_path a_p1_debt) H := hP
  have hD : va_D A (WX5_takeFrom E q0 q0_snow q0_path q0_debt q1 q1_snow q1_path q1_debt i_p1_now ((cpy 14 a_p1_snow a_snow)) ((cpy 7 a_p1_path a_path)) ((cpy 49 a_p1_debt a_debt)) i_p1_now a_p1_snow a_p1_path a_p1_debt) := hD
  have hj0 := Option.some.inj hf
  obtain ⟨ha0, hj1⟩ := Prod.mk.inj hj0
  obtain ⟨ha1, hj2⟩ := Prod.mk.inj hj1
  obtain ⟨ha2, hj3⟩ := Prod.mk.inj hj2
  subst ha0
  subst ha1
  subst ha2
  subst hj3
  exact hret _ _ _ _ dX5_takeFrom_53 hP hD hS
theorem dJ7_fill_53178_0 : decode cJ7_fill_53178 0 = .ok (.iconst 0, 1) := by decide +kernel
theorem dJ7_fill_53178_1 : decode cJ7_fill_53178 1 = .ok (.istore_n 2, 1) := by decide +kernel
theorem dJ7_fill_53178_2 : decode cJ7_fill_53178 2 = .ok (.aload_n 0, 1) := by decide +kernel
theorem dJ7_fill_53178_3 : decode cJ7_fill_53178 3 = .ok (.arraylength, 1) := by decide +kernel
theorem dJ7_fill_53178_4 : decode cJ7_fill_53178 4 = .ok (.istore_n 3, 1) := by decide +kernel
theorem dJ7_fill_53178_5 : decode cJ7_fill_53178 5 = .ok (.iload_n 2, 1) := by decide +kernel
theorem dJ7_fill_53178_6 : decode cJ7_fill_53178 6 = .ok (.iload_n 3, 1) := by decide +kernel
theorem dJ7_fill_53178_7 : decode cJ7_fill_53178 7 = .ok (.if_icmp .ge 13, 3) := by decide +kernel
theorem dJ7_fill_53178_10 : decode cJ7_fill_53178 10 = .ok (.aload_n 0, 1) := by decide +kernel
theorem dJ7_fill_53178_11 : decode cJ7_fill_53178 11 = .ok (.iload_n 2, 1) := by decide +kernel
theorem dJ7_fill_53178_12 : decode cJ7_fill_53178 12 = .ok (.iload_n 1, 1) := by decide +kernel
theorem dJ7_fill_53178_13 : decode cJ7_fill_53178 13 = .ok (.iastore, 1) := by decide +kernel
theorem dJ7_fill_53178_14 : decode cJ7_fill_53178 14 = .ok (.iinc 2 1, 3) := by decide +kernel
theorem dJ7_fill_53178_17 : decode cJ7_fill_53178 17 = .ok (.goto (-12), 3) := by decide +kernel
theorem dJ7_fill_53178_20 : decode cJ7_fill_53178 20 = .ok (.return_, 1) := by decide +kernel
def WJ7_fill_53178 (E : ENV) (q0 : Nat) (n_ : Nat) (a_ : Nat → Int32) : va_W := [(q0, .inl (E.2.1, n_, .inl a_))]
set_option maxHeartbeats 4000000 in
set_option maxRecDepth 20000 in
theorem kJ7_fill_53178 (l : Launch) (E : ENV) (q0 : Nat) (n_ : Nat) (a_ : Nat → Int32) (p1 : Int32) (a_9 : Nat → Int32) (hf : fJ7_fill_53178 n_ a_ p1 = some a_9) : CV l E yJ7_fill_53178 cJ7_fill_53178 4 0 [.ref q0, .int p1] (WJ7_fill_53178 E q0 n_ a_) (WJ7_fill_53178 E q0 n_ a_9) := by
  refine begV (by decide +kernel) (Nat.le_of_ble_eq_true rfl) ?_
  intro p e s m args below meth c A Q C hA hret
  have hx := C.1
  have hb := C.2.1
  have L5 : ∀ (v3 : Int32), ∀ (n : Nat) (v2 : Int32) (a_ : Nat → Int32) (o : (Nat → Int32)), fJ7_fill_53178_L5 n_ p1 v3 n v2 a_ = some o → (GO p l e 0 s m args below meth c Q E A 4 20 [] [] (WJ7_fill_53178 E q0 n_ o)) → GO p l e 0 s m args below meth c Q E A 4 5 [] [(0, .ref q0), (1, .int p1), (2, .int v2), (3, .int v3)] (WJ7_fill_53178 E q0 n_ a_) := by
    intro v3
    intro n
    induction n with
    | zero =>
      intro v2 a_ o hf
      have hf : none = some o := hf
      cases hf
    | succ n ih =>
      intro v2 a_ o hf hE
      intro H locs ls hl hP hD hS
      rw [fJ7_fill_53178_L5] at hf
      refine lv_iload_n hx hb dJ7_fill_53178_5 rfl (lv_at hl 2 rfl) ?_
      refine lv_iload_n hx hb dJ7_fill_53178_6 rfl (lv_at hl 3 rfl) ?_
      refine lv_icmp_ge (tgt := 20) hx hb dJ7_fill_53178_7 (by decide) (fun c1 => ?_) (fun c1 => ?_)
      · rw [if_pos c1] at hf
        have hf := Option.some.inj hf
        subst hf
        exact hE _ _ _ (lv_sub hl [] rfl) hP hD hS
      · rw [if_neg c1] at hf
        refine lv_aload_n hx hb dJ7_fill_53178_10 rfl (lv_at hl 0 rfl) ?_
        refine lv_iload_n hx hb dJ7_fill_53178_11 rfl (lv_at hl 2 rfl) ?_
        refine lv_iload_n hx hb dJ7_fill_53178_12 rfl (lv_at hl 1 rfl) ?_
        obtain ⟨g2, hf⟩ := gd_some hf
        refine va_iast hx hb C.2.2.2.2.2.1 hP hD hS 0 0 rfl rfl (vin_in g2) dJ7_fill_53178_13 (fun H locs hP hD hS => ?_)
        have hP : va_P E.1 classes (WJ7_fill_53178 E q0 n_ ((upd a_ (v2 : Int32).toNatClampNeg p1))) H := hP
        have hD : va_D A (WJ7_fill_53178 E q0 n_ ((upd a_ (v2 : Int32).toNatClampNeg p1))) := hD
        refine lv_iinc (v := (v2 + 1)) (lv' := [(2, .int ((v2 + 1))), (0, .ref q0), (1, .int p1), (3, .int v3)]) hx hb dJ7_fill_53178_14 hl (k := 2) rfl rfl (by decide) rfl (fun ls hl => ?_)
        refine lv_goto (tgt := 5) hx hb dJ7_fill_53178_17 (by decide) ?_
        exact ih ((v2 + 1)) ((upd a_ (v2 : Int32).toNatClampNeg p1)) _ hf hE _ _ _ (lv_sub hl [1, 2, 0, 3] rfl) hP hD hS
  intro H locs ls hl hP hD hS
  have hl : lv_has ls 4 [(0, .ref q0), (1, .int p1)] := hl
  unfold fJ7_fill_53178 at hf
  refine lv_iconst (v := 0) hx hb dJ7_fill_53178_0 (by decide) ?_
  refine lv_istore_n (lv' := [(2, .int 0), (0, .ref q0), (1, .int p1)]) hx hb dJ7_fill_53178_1 rfl hl (by decide) rfl (fun ls hl => ?_)
  refine lv_aload_n hx hb dJ7_fill_53178_2 rfl (lv_at hl 1 rfl) ?_
  refine va_alen hx hb C.2.2.2.2.2.1 hP 0 0 rfl rfl (v := (Int32.ofNat n_)) rfl dJ7_fill_53178_3 ?_
  refine lv_istore_n (lv' := [(3, .int ((Int32.ofNat n_))), (2, .int 0), (0, .ref q0), (1, .int p1)]) hx hb dJ7_fill_53178_4 rfl hl (by decide) rfl (fun ls hl => ?_)
  obtain ⟨o3, hg4, hf⟩ := bd_some hf
  refine L5 ((Int32.ofNat n_)) FU 0 a_ o3 hg4 ?_ _ _ _ (lv_sub hl [2, 3, 1, 0] rfl) hP hD hS
  intro H locs ls hl hP hD hS
  have hj0 := Option.some.inj hf
  subst hj0
  exact hret _ _ _ _ dJ7_fill_53178_20 hP hD hS
theorem q797 : Cond.methodLink RX5 42 Lib.Math.min.name ∈ Tg := Tg_mem 797 (by decide +kernel) (by decide +kernel)
theorem dX5_shift_0 : decode cX5_shift 0 = .ok (.iload_n 2, 1) := by decide +kernel
theorem dX5_shift_1 : decode cX5_shift 1 = .ok (.aload_n 0, 1) := by decide +kernel
theorem dX5_shift_2 : decode cX5_shift 2 = .ok (.getfield 9, 3) := by decide +kernel
theorem dX5_shift_5 : decode cX5_shift 5 = .ok (.iload_n 1, 1) := by decide +kernel
theorem dX5_shift_6 : decode cX5_shift 6 = .ok (.iaload, 1) := by decide +kernel
theorem dX5_shift_7 : decode cX5_shift 7 = .ok (.invokestatic 42, 3) := by decide +kernel
theorem dX5_shift_10 : decode cX5_shift 10 = .ok (.istore_n 3, 1) := by decide +kernel
theorem dX5_shift_11 : decode cX5_shift 11 = .ok (.aload_n 0, 1) := by decide +kernel
theorem dX5_shift_12 : decode cX5_shift 12 = .ok (.getfield 9, 3) := by decide +kernel
theorem dX5_shift_15 : decode cX5_shift 15 = .ok (.iload_n 1, 1) := by decide +kernel
theorem dX5_shift_16 : decode cX5_shift 16 = .ok (.dup2, 1) := by decide +kernel
theorem dX5_shift_17 : decode cX5_shift 17 = .ok (.iaload, 1) := by decide +kernel
theorem dX5_shift_18 : decode cX5_shift 18 = .ok (.iload_n 3, 1) := by decide +kernel
theorem dX5_shift_19 : decode cX5_shift 19 = .ok (.isub, 1) := by decide +kernel
theorem dX5_shift_20 : decode cX5_shift 20 = .ok (.iastore, 1) := by decide +kernel
theorem dX5_shift_21 : decode cX5_shift 21 = .ok (.aload_n 0, 1) := by decide +kernel
theorem dX5_shift_22 : decode cX5_shift 22 = .ok (.getfield 9, 3) := by decide +kernel
theorem dX5_shift_25 : decode cX5_shift 25 = .ok (.iload_n 1, 1) := by decide +kernel
theorem dX5_shift_26 : decode cX5_shift 26 = .ok (.iconst 1, 1) := by decide +kernel
theorem dX5_shift_27 : decode cX5_shift 27 = .ok (.ixor, 1) := by decide +kernel
theorem dX5_shift_28 : decode cX5_shift 28 = .ok (.sipush 999, 3) := by decide +kernel
theorem dX5_shift_31 : decode cX5_shift 31 = .ok (.aload_n 0, 1) := by decide +kernel
theorem dX5_shift_32 : decode cX5_shift 32 = .ok (.getfield 9, 3) := by decide +kernel
theorem dX5_shift_35 : decode cX5_shift 35 = .ok (.iload_n 1, 1) := by decide +kernel
theorem dX5_shift_36 : decode cX5_shift 36 = .ok (.iconst 1, 1) := by decide +kernel
theorem dX5_shift_37 : decode cX5_shift 37 = .ok (.ixor, 1) := by decide +kernel
theorem dX5_shift_38 : decode cX5_shift 38 = .ok (.iaload, 1) := by decide +kernel
theorem dX5_shift_39 : decode cX5_shift 39 = .ok (.iload_n 3, 1) := by decide +kernel
theorem dX5_shift_40 : decode cX5_shift 40 = .ok (.iadd, 1) := by decide +kernel
theorem dX5_shift_41 : decode cX5_shift 41 = .ok (.invokestatic 42, 3) := by decide +kernel
theorem dX5_shift_44 : decode cX5_shift 44 = .ok (.iastore, 1) := by decide +kernel
theorem dX5_shift_45 : decode cX5_shift 45 = .ok (.iload_n 3, 1) := by decide +kernel
theorem dX5_shift_46 : decode cX5_shift 46 = .ok (.ireturn, 1) := by decide +kernel
def WX5_shift (E : ENV) (q0 : Nat) (q0_snow : Nat) (q0_path : Nat) (q0_debt : Nat) (i_now : Int32) (a_snow : Nat → Int32) : va_W := [(q0, .inr (5, [.ref q0_snow, .ref q0_path, .ref q0_debt, .int i_now])), (q0_snow, .inl (E.2.1, 14, .inl a_snow))]
set_option maxHeartbeats 4000000 in
set_option maxRecDepth 20000 in
theorem kX5_shift (l : Launch) (E : ENV) (q0 : Nat) (q0_snow : Nat) (q0_path : Nat) (q0_debt : Nat) (i_now : Int32) (a_snow : Nat → Int32) (p1 : Int32) (p2 : Int32) (r9 : Int32) (a_snow9 : Nat → Int32) (hf : fX5_shift a_snow p1 p2 = some (r9, a_snow9)) : CI l E yX5_shift cX5_shift 4 (some .int) 1 [.ref q0, .int p1, .int p2] (WX5_shift E q0 q0_snow q0_path q0_debt i_now a_snow) (WX5_shift E q0 q0_snow q0_path q0_debt i_now a_snow9) r9 := by
  refine begI (by decide +kernel) (Nat.le_of_ble_eq_true rfl) ?_
  intro p e s m args below meth c A Q C hA hret
  have hx := C.1
  have hb := C.2.1
  intro H locs ls hl hP hD hS
  have hl : lv_has ls 4 [(0, .ref q0), (1, .int p1), (2, .int p2)] := hl
  unfold fX5_shift at hf
  refine lv_iload_n hx hb dX5_shift_0 rfl (lv_at hl 2 rfl) ?_
  refine lv_aload_n hx hb dX5_shift_1 rfl (lv_at hl 0 rfl) ?_
  refine gf_RX5_9 C hP 0 rfl rfl dX5_shift_2 ?_
  refine lv_iload_n hx hb dX5_shift_5 rfl (lv_at hl 1 rfl) ?_
  obtain ⟨g1, hf⟩ := gd_some hf
  refine va_iald hx hb C.2.2.2.2.2.1 hP 1 0 rfl rfl (vin_in g1) dX5_shift_6 ?_
  refine r_min C q797 (Nat.le_of_ble_eq_true rfl) hl.1 (Nat.le_of_ble_eq_true rfl) dX5_shift_7 ?_
  refine lv_istore_n (lv' := [(3, .int ((mn p2 ((a_snow (p1 : Int32).toNatClampNeg))))), (0, .ref q0), (1, .int p1), (2, .int p2)]) hx hb dX5_shift_10 rfl hl (by decide) rfl (fun ls hl => ?_)
  refine lv_aload_n hx hb dX5_shift_11 rfl (lv_at hl 1 rfl) ?_
  refine gf_RX5_9 C hP 0 rfl rfl dX5_shift_12 ?_
  refine lv_iload_n hx hb dX5_shift_15 rfl (lv_at hl 2 rfl) ?_
  refine lv_dup2_11 hx hb dX5_shift_16 rfl rfl ?_
  obtain ⟨g2, hf⟩ := gd_some hf
  refine va_iald hx hb C.2.2.2.2.2.1 hP 1 0 rfl rfl (vin_in g2) dX5_shift_17 ?_
  refine lv_iload_n hx hb dX5_shift_18 rfl (lv_at hl 0 rfl) ?_
  refine lv_isub hx hb dX5_shift_19 ?_
  obtain ⟨g3, hf⟩ := gd_some hf
  refine va_iast hx hb C.2.2.2.2.2.1 hP hD hS 1 0 rfl rfl (vin_in g3) dX5_shift_20 (fun H locs hP hD hS => ?_)
  have hP : va_P E.1 classes (WX5_shift E q0 q0_snow q0_path q0_debt i_now ((upd a_snow (p1 : Int32).toNatClampNeg ((((a_snow (p1 : Int32).toNatClampNeg)) - ((mn p2 ((a_snow (p1 : Int32).toNatClampNeg))))))))) H := hP
  have hD : va_D A (WX5_shift E q0 q0_snow q0_path q0_debt i_now ((upd a_snow (p1 : Int32).toNatClampNeg ((((a_snow (p1 : Int32).toNatClampNeg)) - ((mn p2 ((a_snow (p1 : Int32).toNatClampNeg))))))))) := hD
  refine lv_aload_n hx hb dX5_shift_21 rfl (lv_at hl 1 rfl) ?_
  refine gf_RX5_9 C hP 0 rfl rfl dX5_shift_22 ?_
  refine lv_iload_n hx hb dX5_shift_25 rfl (lv_at hl 2 rfl) ?_
  refine lv_iconst (v := 1) hx hb dX5_shift_26 (by decide) ?_
  refine lv_ixor hx hb dX5_shift_27 ?_
  refine lv_sipush (v := 999) hx hb dX5_shift_28 (by decide) ?_
  refine lv_aload_n hx hb dX5_shift_31 rfl (lv_at hl 1 rfl) ?_
  refine gf_RX5_9 C hP 0 rfl rfl dX5_shift_32 ?_
  refine lv_iload_n hx hb dX5_shift_35 rfl (lv_at hl 2 rfl) ?_
  refine lv_iconst (v := 1) hx hb dX5_shift_36 (by decide) ?_
  refine lv_ixor hx hb dX5_shift_37 ?_
  obtain ⟨g4, hf⟩ := gd_some hf
  refine va_iald hx hb C.2.2.2.2.2.1 hP 1 0 rfl rfl (vin_in g4) dX5_shift_38 ?_
  refine lv_iload_n hx hb dX5_shift_39 rfl (lv_at hl 0 rfl) ?_
  refine lv_iadd hx hb dX5_shift_40 ?_
  refine r_min C q797 (Nat.le_of_ble_eq_true rfl) hl.1 (Nat.le_of_ble_eq_true rfl) dX5_shift_41 ?_
  obtain ⟨g5, hf⟩ := gd_some hf
  refine va_iast hx hb C.2.2.2.2.2.1 hP hD hS 1 0 rfl rfl (vin_in g5) dX5_shift_44 (fun H locs hP hD hS => ?_)
  have hP : va_P E.1 classes (WX5_shift E q0 q0_snow q0_path q0_debt i_now ((upd ((upd a_snow (p1 : Int32).toNatClampNeg ((((a_snow (p1 : Int32).toNatClampNeg)) - ((mn p2 ((a_snow (p1 : Int32).toNatClampNeg)))))))) ((p1 ^^^ 1) : Int32).toNatClampNeg ((mn 999 ((((((upd a_snow (p1 : Int32).toNatClampNeg ((((a_snow (p1 : Int32).toNatClampNeg)) - ((mn p2 ((a_snow (p1 : Int32).toNatClampNeg)))))))) ((p1 ^^^ 1) : Int32).toNatClampNeg)) + ((mn p2 ((a_snow (p1 : Int32).toNatClampNeg))))))))))) H := hP
  have hD : va_D A (WX5_shift E q0 q0_snow q0_path q0_debt i_now ((upd ((upd a_snow (p1 : Int32).toNatClampNeg ((((a_snow (p1 : Int32).toNatClampNeg)) - ((mn p2 ((a_snow (p1 : Int32).toNatClampNeg)))))))) ((p1 ^^^ 1) : Int32).toNatClampNeg ((mn 999 ((((((upd a_snow (p1 : Int32).toNatClampNeg ((((a_snow (p1 : Int32).toNatClampNeg)) - ((mn p2 ((a_snow (p1 : Int32).toNatClampNeg)))))))) ((p1 ^^^ 1) : Int32).toNatClampNeg)) + ((mn p2 ((a_snow (p1 : Int32).toNatClampNeg))))))))))) := hD
  refine lv_iload_n hx hb dX5_shift_45 rfl (lv_at hl 0 rfl) ?_
  have hj0 := Option.some.inj hf
  obtain ⟨ha0, hj1⟩ := Prod.mk.inj hj0
  subst ha0
  subst hj1
  exact hret _ _ _ _ dX5_shift_46 rfl hP hD hS
theorem inT10 : ∀ w ∈ u_ws RX10 TX10 3, w ∈ Tg := by decide +kernel
theorem q180 : Cond.fieldLink RX10 13 "SnowForSummer$Weather" "cycle" "I" ∈ Tg := Tg_mem 180 (by decide +kernel) (by decide +kernel)
theorem gf_RX10_13 {p : Program} {l : Launch} {e : Env} {R : Room} {s : State} {m : MethodId} {args : Array Value} {below : List Frame} {meth : Method} {c : Code} {H : Heap} {locs : List Loc} {cells slots : Nat} {Q : State → Prop} {E : ENV} {cc : ByteArray} {n : Nat} {r : Option FieldType} {pc : Nat} {ls : Array Slot} {rest : List Value} {a : Nat} {ws : va_W} {nm ds : String} {fs : List Value} {A : Nat → Prop} {v : Value} (C : Cx E A ⟨RX10, nm, ds⟩ cc n r p s m args meth c) (hP : va_P E.1 classes ws H) (q0 : Nat) (he : ws[q0]? = some (a, .inr (10, fs))) (hv : fs[2]? = some v) (hdg : decode cc pc = .ok (.getfield 13, 3))
    (kk : W p l e R s m args below meth c H locs cells slots Q (F0 m (pc + 3) ls (v :: rest))) : W p l e R s m args below meth c H locs cells slots Q (F0 m pc ls (.ref a :: rest)) :=
  va_get (C := RX10) (T := TX10) (N := 3) (Ts := wl ⟨RX10, nm, ds⟩ cc n r) C.1 C.2.1 C.2.2.2.2.1 (fun w h => List.mem_cons_of_mem _ (inT10 w h)) C.2.2.2.1 C.2.2.2.2.2.1 hP q0 he rfl 2 (by decide) (C.2.2.2.2.1 _ (List.mem_cons_of_mem _ q180)) (fun _ h9 => h9) hv hdg kk
theorem q177 : Cond.fieldLink RX10 9 "SnowForSummer$Weather" "inches" "[I" ∈ Tg := Tg_mem 177 (by decide +kernel) (by decide +kernel)
theorem gf_RX10_9 {p : Program} {l : Launch} {e : Env} {R : Room} {s : State} {m : MethodId} {args : Array Value} {below : List Frame} {meth : Method} {c : Code} {H : Heap} {locs : List Loc} {cells slots : Nat} {Q : State → Prop} {E : ENV} {cc : ByteArray} {n : Nat} {r : Option FieldType} {pc : Nat} {ls : Array Slot} {rest : List Value} {a : Nat} {ws : va_W} {nm ds : String} {fs : List Value} {A : Nat → Prop} {v : Value} (C : Cx E A ⟨RX10, nm, ds⟩ cc n r p s m args meth c) (hP : va_P E.1 classes ws H) (q0 : Nat) (he : ws[q0]? = some (a, .inr (10, fs))) (hv : fs[0]? = some v) (hdg : decode cc pc = .ok (.getfield 9, 3))
    (kk : W p l e R s m args below meth c H locs cells slots Q (F0 m (pc + 3) ls (v :: rest))) : W p l e R s m args below meth c H locs cells slots Q (F0 m pc ls (.ref a :: rest)) :=
  va_get (C := RX10) (T := TX10) (N := 3) (Ts := wl ⟨RX10, nm, ds⟩ cc n r) C.1 C.2.1 C.2.2.2.2.1 (fun w h => List.mem_cons_of_mem _ (inT10 w h)) C.2.2.2.1 C.2.2.2.2.2.1 hP q0 he rfl 0 (by decide) (C.2.2.2.2.1 _ (List.mem_cons_of_mem _ q177)) (fun _ h9 => h9) hv hdg kk
theorem dX10_inchesIn_0 : decode cX10_inchesIn 0 = .ok (.aload_n 0, 1) := by decide +kernel
theorem dX10_inchesIn_1 : decode cX10_inchesIn 1 = .ok (.getfield 13, 3) := by decide +kernel
theorem dX10_inchesIn_4 : decode cX10_inchesIn 4 = .ok (.iconst 1, 1) := by decide +kernel
theorem dX10_inchesIn_5 : decode cX10_inchesIn 5 = .ok (.if_icmp .lt 7, 3) := by decide +kernel
theorem dX10_inchesIn_8 : decode cX10_inchesIn 8 = .ok (.iload_n 1, 1) := by decide +kernel
theorem dX10_inchesIn_9 : decode cX10_inchesIn 9 = .ok (.ifCond .ge 7, 3) := by decide +kernel
theorem dX10_inchesIn_12 : decode cX10_inchesIn 12 = .ok (.iconst 0, 1) := by decide +kernel
theorem dX10_inchesIn_13 : decode cX10_inchesIn 13 = .ok (.goto 14, 3) := by decide +kernel
theorem dX10_inchesIn_16 : decode cX10_inchesIn 16 = .ok (.aload_n 0, 1) := by decide +kernel
theorem dX10_inchesIn_17 : decode cX10_inchesIn 17 = .ok (.getfield 9, 3) := by decide +kernel
theorem dX10_inchesIn_20 : decode cX10_inchesIn 20 = .ok (.iload_n 1, 1) := by decide +kernel
theorem dX10_inchesIn_21 : decode cX10_inchesIn 21 = .ok (.aload_n 0, 1) := by decide +kernel
theorem dX10_inchesIn_22 : decode cX10_inchesIn 22 = .ok (.getfield 13, 3) := by decide +kernel
theorem dX10_inchesIn_25 : decode cX10_inchesIn 25 = .ok (.irem, 1) := by decide +kernel
theorem dX10_inchesIn_26 : decode cX10_inchesIn 26 = .ok (.iaload, 1) := by decide +kernel
theorem dX10_inchesIn_27 : decode cX10_inchesIn 27 = .ok (.ireturn, 1) := by decide +kernel
def WX10_inchesIn (E : ENV) (q0 : Nat) (q0_inches : Nat) (i_length : Int32) (i_cycle : Int32) (a_inches : Nat → Int32) : va_W := [(q0, .inr (10, [.ref q0_inches, .int i_length, .int i_cycle])), (q0_inches, .inl (E.2.1, 40, .inl a_inches))]
set_option maxHeartbeats 4000000 in
set_option maxRecDepth 20000 in
theorem kX10_inchesIn (l : Launch) (E : ENV) (q0 : Nat) (q0_inches : Nat) (i_length : Int32) (i_cycle : Int32) (a_inches : Nat → Int32) (p1 : Int32) (r9 : Int32) (hf : fX10_inchesIn i_cycle a_inches p1 = some r9) : CI l E yX10_inchesIn cX10_inchesIn 2 (some .int) 0 [.ref q0, .int p1] (WX10_inchesIn E q0 q0_inches i_length i_cycle a_inches) (WX10_inchesIn E q0 q0_inches i_length i_cycle a_inches) r9 := by
  refine begI (by decide +kernel) (Nat.le_of_ble_eq_true rfl) ?_
  intro p e s m args below meth c A Q C hA hret
  have hx := C.1
  have hb := C.2.1
  intro H locs ls hl hP hD hS
  have hl : lv_has ls 2 [(0, .ref q0), (1, .int p1)] := hl
  unfold fX10_inchesIn at hf
  refine lv_aload_n hx hb dX10_inchesIn_0 rfl (lv_at hl 0 rfl) ?_
  refine gf_RX10_13 C hP 0 rfl rfl dX10_inchesIn_1 ?_
  refine lv_iconst (v := 1) hx hb dX10_inchesIn_4 (by decide) ?_
  refine lv_icmp_lt (tgt := 12) hx hb dX10_inchesIn_5 (by decide) (fun c1 => ?_) (fun c1 => ?_)
  · rw [if_pos c1] at hf
    refine lv_iconst (v := 0) hx hb dX10_inchesIn_12 (by decide) ?_
    refine lv_goto (tgt := 27) hx hb dX10_inchesIn_13 (by decide) ?_
    have hj0 := Option.some.inj hf
    subst hj0
    exact hret _ _ _ _ dX10_inchesIn_27 rfl hP hD hS
  · rw [if_neg c1] at hf
    refine lv_iload_n hx hb dX10_inchesIn_8 rfl (lv_at hl 1 rfl) ?_
    refine lv_if_ge (tgt := 16) hx hb dX10_inchesIn_9 (by decide) (fun c2 => ?_) (fun c2 => ?_)
    · rw [if_pos c2] at hf
      refine lv_aload_n hx hb dX10_inchesIn_16 rfl (lv_at hl 0 rfl) ?_
      refine gf_RX10_9 C hP 0 rfl rfl dX10_inchesIn_17 ?_
      refine lv_iload_n hx hb dX10_inchesIn_20 rfl (lv_at hl 1 rfl) ?_
      refine lv_aload_n hx hb dX10_inchesIn_21 rfl (lv_at hl 0 rfl) ?_
      refine gf_RX10_13 C hP 0 rfl rfl dX10_inchesIn_22 ?_
      obtain ⟨g3, hf⟩ := gd_some hf
      refine r_irem hx hb dX10_inchesIn_25 (nz_ne g3) ?_
      obtain ⟨g4, hf⟩ := gd_some hf
      refine va_iald hx hb C.2.2.2.2.2.1 hP 1 0 rfl rfl (vin_in g4) dX10_inchesIn_26 ?_
      have hj0 := Option.some.inj hf
      subst hj0
      exact hret _ _ _ _ dX10_inchesIn_27 rfl hP hD hS
    · rw [if_neg c2] at hf
      refine lv_iconst (v := 0) hx hb dX10_inchesIn_12 (by decide) ?_
      refine lv_goto (tgt := 27) hx hb dX10_inchesIn_13 (by decide) ?_
      have hj0 := Option.some.inj hf
      subst hj0
      exact hret _ _ _ _ dX10_inchesIn_27 rfl hP hD hS
theorem q798 : Cond.methodLink RX5 48 Lib.Math.max.name ∈ Tg := Tg_mem 798 (by decide +kernel) (by decide +kernel)
theorem dX5_lying_0 : decode cX5_lying 0 = .ok (.iconst 0, 1) := by decide +kernel
theorem dX5_lying_1 : decode cX5_lying 1 = .ok (.sipush 999, 3) := by decide +kernel
theorem dX5_lying_4 : decode cX5_lying 4 = .ok (.iload_n 0, 1) := by decide +kernel
theorem dX5_lying_5 : decode cX5_lying 5 = .ok (.invokestatic 42, 3) := by decide +kernel
theorem dX5_lying_8 : decode cX5_lying 8 = .ok (.invokestatic 48, 3) := by decide +kernel
theorem dX5_lying_11 : decode cX5_lying 11 = .ok (.ireturn, 1) := by decide +kernel
def WX5_lying (E : ENV)  : va_W := []
set_option maxHeartbeats 4000000 in
set_option maxRecDepth 20000 in
theorem kX5_lying (l : Launch) (E : ENV) (p0 : Int32) (r9 : Int32) (hf : fX5_lying p0 = some r9) : CI l E yX5_lying cX5_lying 1 (some .int) 1 [.int p0] (WX5_lying E) (WX5_lying E) r9 := by
  refine begI (by decide +kernel) (Nat.le_of_ble_eq_true rfl) ?_
  intro p e s m args below meth c A Q C hA hret
  have hx := C.1
  have hb := C.2.1
  intro H locs ls hl hP hD hS
  have hl : lv_has ls 1 [(0, .int p0)] := hl
  unfold fX5_lying at hf
  refine lv_iconst (v := 0) hx hb dX5_lying_0 (by decide) ?_
  refine lv_sipush (v := 999) hx hb dX5_lying_1 (by decide) ?_
  refine lv_iload_n hx hb dX5_lying_4 rfl (lv_at hl 0 rfl) ?_
  refine r_min C q797 (Nat.le_of_ble_eq_true rfl) hl.1 (Nat.le_of_ble_eq_true rfl) dX5_lying_5 ?_
  refine r_max C q798 (Nat.le_of_ble_eq_true rfl) hl.1 (Nat.le_of_ble_eq_true rfl) dX5_lying_8 ?_
  have hj0 := Option.some.inj hf
  subst hj0
  exact hret _ _ _ _ dX5_lying_11 rfl hP hD hS
theorem inT7 : ∀ w ∈ u_ws RX7 TX7 4, w ∈ Tg := by decide +kernel
theorem q159 : Cond.fieldLink RX7 21 "SnowForSummer$Town" "houses" "I" ∈ Tg := Tg_mem 159 (by decide +kernel) (by decide +kernel)
theorem gf_RX7_21 {p : Program} {l : Launch} {e : Env} {R : Room} {s : State} {m : MethodId} {args : Array Value} {below : List Frame} {meth : Method} {c : Code} {H : Heap} {locs : List Loc} {cells slots : Nat} {Q : State → Prop} {E : ENV} {cc : ByteArray} {n : Nat} {r : Option FieldType} {pc : Nat} {ls : Array Slot} {rest : List Value} {a : Nat} {ws : va_W} {nm ds : String} {fs : List Value} {A : Nat → Prop} {v : Value} (C : Cx E A ⟨RX7, nm, ds⟩ cc n r p s m args meth c) (hP : va_P E.1 classes ws H) (q0 : Nat) (he : ws[q0]? = some (a, .inr (7, fs))) (hv : fs[3]? = some v) (hdg : decode cc pc = .ok (.getfield 21, 3))
    (kk : W p l e R s m args below meth c H locs cells slots Q (F0 m (pc + 3) ls (v :: rest))) : W p l e R s m args below meth c H locs cells slots Q (F0 m pc ls (.ref a :: rest)) :=
  va_get (C := RX7) (T := TX7) (N := 4) (Ts := wl ⟨RX7, nm, ds⟩ cc n r) C.1 C.2.1 C.2.2.2.2.1 (fun w h => List.mem_cons_of_mem _ (inT7 w h)) C.2.2.2.1 C.2.2.2.2.2.1 hP q0 he rfl 3 (by decide) (C.2.2.2.2.1 _ (List.mem_cons_of_mem _ q159)) (fun _ h9 => h9) hv hdg kk
theorem dX7_has_0 : decode cX7_has 0 = .ok (.iload_n 1, 1) := by decide +kernel
theorem dX7_has_1 : decode cX7_has 1 = .ok (.ifCond .lt 15, 3) := by decide +kernel
theorem dX7_has_4 : decode cX7_has 4 = .ok (.iload_n 1, 1) := by decide +kernel
theorem dX7_has_5 : decode cX7_has 5 = .ok (.aload_n 0, 1) := by decide +kernel
theorem dX7_has_6 : decode cX7_has 6 = .ok (.getfield 21, 3) := by decide +kernel
theorem dX7_has_9 : decode cX7_has 9 = .ok (.if_icmp .ge 7, 3) := by decide +kernel
theorem dX7_has_12 : decode cX7_has 12 = .ok (.iconst 1, 1) := by decide +kernel
theorem dX7_has_13 : decode cX7_has 13 = .ok (.goto 4, 3) := by decide +kernel
theorem dX7_has_16 : decode cX7_has 16 = .ok (.iconst 0, 1) := by decide +kernel
theorem dX7_has_17 : decode cX7_has 17 = .ok (.ireturn, 1) := by decide +kernel
def WX7_has (E : ENV) (q0 : Nat) (q0_hold : Nat) (q0_below : Nat) (q0_hay : Nat) (i_houses : Int32) : va_W := [(q0, .inr (7, [.ref q0_hold, .ref q0_below, .ref q0_hay, .int i_houses]))]
set_option maxHeartbeats 4000000 in
set_option maxRecDepth 20000 in
theorem kX7_has (l : Launch) (E : ENV) (q0 : Nat) (q0_hold : Nat) (q0_below : Nat) (q0_hay : Nat) (i_houses : Int32) (p1 : Int32) (r9 : Int32) (hf : fX7_has i_houses p1 = some r9) : CI l E yX7_has cX7_has 2 (some .boolean) 0 [.ref q0, .int p1] (WX7_has E q0 q0_hold q0_below q0_hay i_houses) (WX7_has E q0 q0_hold q0_below q0_hay i_houses) r9 := by
  refine begI (by decide +kernel) (Nat.le_of_ble_eq_true rfl) ?_
  intro p e s m args below meth c A Q C hA hret
  have hx := C.1
  have hb := C.2.1
  intro H locs ls hl hP hD hS
  have hl : lv_has ls 2 [(0, .ref q0), (1, .int p1)] := hl
  unfold fX7_has at hf
  refine lv_iload_n hx hb dX7_has_0 rfl (lv_at hl 1 rfl) ?_
  refine lv_if_lt (tgt := 16) hx hb dX7_has_1 (by decide) (fun c1 => ?_) (fun c1 => ?_)
  · rw [if_pos c1] at hf
    refine lv_iconst (v := 0) hx hb dX7_has_16 (by decide) ?_
    have hj0 := Option.some.inj hf
    subst hj0
    exact hret _ _ _ _ dX7_has_17 rfl hP hD hS
  · rw [if_neg c1] at hf
    refine lv_iload_n hx hb dX7_has_4 rfl (lv_at hl 1 rfl) ?_
    refine lv_aload_n hx hb dX7_has_5 rfl (lv_at hl 0 rfl) ?_
    refine gf_RX7_21 C hP 0 rfl rfl dX7_has_6 ?_
    refine lv_icmp_ge (tgt := 16) hx hb dX7_has_9 (by decide) (fun c2 => ?_) (fun c2 => ?_)
    · rw [if_pos c2] at hf
      refine lv_iconst (v := 0) hx hb dX7_has_16 (by decide) ?_
      have hj0 := Option.some.inj hf
      subst hj0
      exact hret _ _ _ _ dX7_has_17 rfl hP hD hS
    · rw [if_neg c2] at hf
      refine lv_iconst (v := 1) hx hb dX7_has_12 (by decide) ?_
      refine lv_goto (tgt := 17) hx hb dX7_has_13 (by decide) ?_
      have hj0 := Option.some.inj hf
      subst hj0
      exact hret _ _ _ _ dX7_has_17 rfl hP hD hS
theorem dX4_join_0 : decode cX4_join 0 = .ok (.iload_n 0, 1) := by decide +kernel
theorem dX4_join_1 : decode cX4_join 1 = .ok (.lookupswitch 105 #[(42, 67), (43, 59), (45, 63), (47, 71), (60, 83), (62, 94)], 59) := by decide +kernel
theorem dX4_join_60 : decode cX4_join 60 = .ok (.iload_n 1, 1) := by decide +kernel
theorem dX4_join_61 : decode cX4_join 61 = .ok (.iload_n 2, 1) := by decide +kernel
theorem dX4_join_62 : decode cX4_join 62 = .ok (.iadd, 1) := by decide +kernel
theorem dX4_join_63 : decode cX4_join 63 = .ok (.ireturn, 1) := by decide +kernel
theorem dX4_join_64 : decode cX4_join 64 = .ok (.iload_n 1, 1) := by decide +kernel
theorem dX4_join_65 : decode cX4_join 65 = .ok (.iload_n 2, 1) := by decide +kernel
theorem dX4_join_66 : decode cX4_join 66 = .ok (.isub, 1) := by decide +kernel
theorem dX4_join_67 : decode cX4_join 67 = .ok (.ireturn, 1) := by decide +kernel
theorem dX4_join_68 : decode cX4_join 68 = .ok (.iload_n 1, 1) := by decide +kernel
theorem dX4_join_69 : decode cX4_join 69 = .ok (.iload_n 2, 1) := by decide +kernel
theorem dX4_join_70 : decode cX4_join 70 = .ok (.imul, 1) := by decide +kernel
theorem dX4_join_71 : decode cX4_join 71 = .ok (.ireturn, 1) := by decide +kernel
theorem dX4_join_72 : decode cX4_join 72 = .ok (.iload_n 2, 1) := by decide +kernel
theorem dX4_join_73 : decode cX4_join 73 = .ok (.ifCond .ne 7, 3) := by decide +kernel
theorem dX4_join_76 : decode cX4_join 76 = .ok (.iconst 0, 1) := by decide +kernel
theorem dX4_join_77 : decode cX4_join 77 = .ok (.goto 6, 3) := by decide +kernel
theorem dX4_join_80 : decode cX4_join 80 = .ok (.iload_n 1, 1) := by decide +kernel
theorem dX4_join_81 : decode cX4_join 81 = .ok (.iload_n 2, 1) := by decide +kernel
theorem dX4_join_82 : decode cX4_join 82 = .ok (.idiv, 1) := by decide +kernel
theorem dX4_join_83 : decode cX4_join 83 = .ok (.ireturn, 1) := by decide +kernel
theorem dX4_join_84 : decode cX4_join 84 = .ok (.iload_n 1, 1) := by decide +kernel
theorem dX4_join_85 : decode cX4_join 85 = .ok (.iload_n 2, 1) := by decide +kernel
theorem dX4_join_86 : decode cX4_join 86 = .ok (.if_icmp .ge 7, 3) := by decide +kernel
theorem dX4_join_89 : decode cX4_join 89 = .ok (.iconst 1, 1) := by decide +kernel
theorem dX4_join_90 : decode cX4_join 90 = .ok (.goto 4, 3) := by decide +kernel
theorem dX4_join_93 : decode cX4_join 93 = .ok (.iconst 0, 1) := by decide +kernel
theorem dX4_join_94 : decode cX4_join 94 = .ok (.ireturn, 1) := by decide +kernel
theorem dX4_join_95 : decode cX4_join 95 = .ok (.iload_n 1, 1) := by decide +kernel
theorem dX4_join_96 : decode cX4_join 96 = .ok (.iload_n 2, 1) := by decide +kernel
theorem dX4_join_97 : decode cX4_join 97 = .ok (.if_icmp .le 7, 3) := by decide +kernel
theorem dX4_join_100 : decode cX4_join 100 = .ok (.iconst 1, 1) := by decide +kernel
theorem dX4_join_101 : decode cX4_join 101 = .ok (.goto 4, 3) := by decide +kernel
theorem dX4_join_104 : decode cX4_join 104 = .ok (.iconst 0, 1) := by decide +kernel
theorem dX4_join_105 : decode cX4_join 105 = .ok (.ireturn, 1) := by decide +kernel
theorem dX4_join_106 : decode cX4_join 106 = .ok (.iload_n 1, 1) := by decide +kernel
theorem dX4_join_107 : decode cX4_join 107 = .ok (.iload_n 2, 1) := by decide +kernel
theorem dX4_join_108 : decode cX4_join 108 = .ok (.if_icmp .ne 7, 3) := by decide +kernel
theorem dX4_join_111 : decode cX4_join 111 = .ok (.iconst 1, 1) := by decide +kernel
theorem dX4_join_112 : decode cX4_join 112 = .ok (.goto 4, 3) := by decide +kernel
theorem dX4_join_115 : decode cX4_join 115 = .ok (.iconst 0, 1) := by decide +kernel
theorem dX4_join_116 : decode cX4_join 116 = .ok (.ireturn, 1) := by decide +kernel
def WX4_join (E : ENV)  : va_W := []
set_option maxHeartbeats 4000000 in
set_option maxRecDepth 20000 in
theorem kX4_join (l : Launch) (E : ENV) (p0 : Int32) (p1 : Int32) (p2 : Int32) (r9 : Int32) (hf : fX4_join p0 p1 p2 = some r9) : CI l E yX4_join cX4_join 3 (some .int) 0 [.int p0, .int p1, .int p2] (WX4_join E) (WX4_join E) r9 := by
  refine begI (by decide +kernel) (Nat.le_of_ble_eq_true rfl) ?_
  intro p e s m args below meth c A Q C hA hret
  have hx := C.1
  have hb := C.2.1
  intro H locs ls hl hP hD hS
  have hl : lv_has ls 3 [(0, .int p0), (1, .int p1), (2, .int p2)] := hl
  unfold fX4_join at hf
  refine lv_iload_n hx hb dX4_join_0 rfl (lv_at hl 0 rfl) ?_
  by_cases c1 : p0 = 42
  · rw [if_pos c1] at hf
    refine lv_lookup hx hb dX4_join_1 (by decide) (off := 67) (by rw [c1]; decide) (tgt := 68) (by decide) ?_
    refine lv_iload_n hx hb dX4_join_68 rfl (lv_at hl 1 rfl) ?_
    refine lv_iload_n hx hb dX4_join_69 rfl (lv_at hl 2 rfl) ?_
    refine lv_imul hx hb dX4_join_70 ?_
    have hj0 := Option.some.inj hf
    subst hj0
    exact hret _ _ _ _ dX4_join_71 rfl hP hD hS
  · rw [if_neg c1] at hf
    by_cases c2 : p0 = 43
    · rw [if_pos c2] at hf
      refine lv_lookup hx hb dX4_join_1 (by decide) (off := 59) (by rw [c2]; decide) (tgt := 60) (by decide) ?_
      refine lv_iload_n hx hb dX4_join_60 rfl (lv_at hl 1 rfl) ?_
      refine lv_iload_n hx hb dX4_join_61 rfl (lv_at hl 2 rfl) ?_
      refine lv_iadd hx hb dX4_join_62 ?_
      have hj0 := Option.some.inj hf
      subst hj0
      exact hret _ _ _ _ dX4_join_63 rfl hP hD hS
    · rw [if_neg c2] at hf
      by_cases c3 : p0 = 45
      · rw [if_pos c3] at hf
        refine lv_lookup hx hb dX4_join_1 (by decide) (off := 63) (by rw [c3]; decide) (tgt := 64) (by decide) ?_
        refine lv_iload_n hx hb dX4_join_64 rfl (lv_at hl 1 rfl) ?_
        refine lv_iload_n hx hb dX4_join_65 rfl (lv_at hl 2 rfl) ?_
        refine lv_isub hx hb dX4_join_66 ?_
        have hj0 := Option.some.inj hf
        subst hj0
        exact hret _ _ _ _ dX4_join_67 rfl hP hD hS
      · rw [if_neg c3] at hf
        by_cases c4 : p0 = 47
        · rw [if_pos c4] at hf
          refine lv_lookup hx hb dX4_join_1 (by decide) (off := 71) (by rw [c4]; decide) (tgt := 72) (by decide) ?_
          refine lv_iload_n hx hb dX4_join_72 rfl (lv_at hl 2 rfl) ?_
          refine lv_if_ne (tgt := 80) hx hb dX4_join_73 (by decide) (fun c5 => ?_) (fun c5 => ?_)
          · rw [if_neg c5] at hf
            refine lv_iload_n hx hb dX4_join_80 rfl (lv_at hl 1 rfl) ?_
            refine lv_iload_n hx hb dX4_join_81 rfl (lv_at hl 2 rfl) ?_
            obtain ⟨g6, hf⟩ := gd_some hf
            refine lv_idiv hx hb dX4_join_82 (nz_ne g6) ?_
            have hj0 := Option.some.inj hf
            subst hj0
            exact hret _ _ _ _ dX4_join_83 rfl hP hD hS
          · rw [if_pos c5] at hf
            refine lv_iconst (v := 0) hx hb dX4_join_76 (by decide) ?_
            refine lv_goto (tgt := 83) hx hb dX4_join_77 (by decide) ?_
            have hj0 := Option.some.inj hf
            subst hj0
            exact hret _ _ _ _ dX4_join_83 rfl hP hD hS
        · rw [if_neg c4] at hf
          by_cases c7 : p0 = 60
          · rw [if_pos c7] at hf
            refine lv_lookup hx hb dX4_join_1 (by decide) (off := 83) (by rw [c7]; decide) (tgt := 84) (by decide) ?_
            refine lv_iload_n hx hb dX4_join_84 rfl (lv_at hl 1 rfl) ?_
            refine lv_iload_n hx hb dX4_join_85 rfl (lv_at hl 2 rfl) ?_
            refine lv_icmp_ge (tgt := 93) hx hb dX4_join_86 (by decide) (fun c8 => ?_) (fun c8 => ?_)
            · rw [if_pos c8] at hf
              refine lv_iconst (v := 0) hx hb dX4_join_93 (by decide) ?_
              have hj0 := Option.some.inj hf
              subst hj0
              exact hret _ _ _ _ dX4_join_94 rfl hP hD hS
            · rw [if_neg c8] at hf
              refine lv_iconst (v := 1) hx hb dX4_join_89 (by decide) ?_
              refine lv_goto (tgt := 94) hx hb dX4_join_90 (by decide) ?_
              have hj0 := Option.some.inj hf
              subst hj0
              exact hret _ _ _ _ dX4_join_94 rfl hP hD hS
          · rw [if_neg c7] at hf
            by_cases c9 : p0 = 62
            · rw [if_pos c9] at hf
              refine lv_lookup hx hb dX4_join_1 (by decide) (off := 94) (by rw [c9]; decide) (tgt := 95) (by decide) ?_
              refine lv_iload_n hx hb dX4_join_95 rfl (lv_at hl 1 rfl) ?_
              refine lv_iload_n hx hb dX4_join_96 rfl (lv_at hl 2 rfl) ?_
              refine lv_icmp_le (tgt := 104) hx hb dX4_join_97 (by decide) (fun c10 => ?_) (fun c10 => ?_)
              · rw [if_pos c10] at hf
                refine lv_iconst (v := 0) hx hb dX4_join_104 (by decide) ?_
                have hj0 := Option.some.inj hf
                subst hj0
                exact hret _ _ _ _ dX4_join_105 rfl hP hD hS
              · rw [if_neg c10] at hf
                refine lv_iconst (v := 1) hx hb dX4_join_100 (by decide) ?_
                refine lv_goto (tgt := 105) hx hb dX4_join_101 (by decide) ?_
                have hj0 := Option.some.inj hf
                subst hj0
                exact hret _ _ _ _ dX4_join_105 rfl hP hD hS
            · rw [if_neg c9] at hf
              refine lv_lookup hx hb dX4_join_1 (by decide) (off := 105) (by rw [lv_osw c1 (by decide), lv_osw c2 (by decide), lv_osw c3 (by decide), lv_osw c4 (by decide), lv_osw c7 (by decide), lv_osw c9 (by decide)]; rfl) (tgt := 106) (by decide) ?_
              refine lv_iload_n hx hb dX4_join_106 rfl (lv_at hl 1 rfl) ?_
              refine lv_iload_n hx hb dX4_join_107 rfl (lv_at hl 2 rfl) ?_
              refine lv_icmp_ne (tgt := 115) hx hb dX4_join_108 (by decide) (fun c11 => ?_) (fun c11 => ?_)
              · rw [if_neg c11] at hf
                refine lv_iconst (v := 0) hx hb dX4_join_115 (by decide) ?_
                have hj0 := Option.some.inj hf
                subst hj0
                exact hret _ _ _ _ dX4_join_116 rfl hP hD hS
              · rw [if_pos c11] at hf
                refine lv_iconst (v := 1) hx hb dX4_join_111 (by decide) ?_
                refine lv_goto (tgt := 116) hx hb dX4_join_112 (by decide) ?_
                have hj0 := Option.some.inj hf
                subst hj0
                exact hret _ _ _ _ dX4_join_116 rfl hP hD hS
theorem inT4 : ∀ w ∈ u_ws RX4 TX4 6, w ∈ Tg := by decide +kernel
theorem q196 : Cond.fieldLink RX4 18 "SnowForSummer$Rule" "stack" "[I" ∈ Tg := Tg_mem 196 (by decide +kernel) (by decide +kernel)
theorem gf_RX4_18 {p : Program} {l : Launch} {e : Env} {R : Room} {s : State} {m : MethodId} {args : Array Value} {below : List Frame} {meth : Method} {c : Code} {H : Heap} {locs : List Loc} {cells slots : Nat} {Q : State → Prop} {E : ENV} {cc : ByteArray} {n : Nat} {r : Option FieldType} {pc : Nat} {ls : Array Slot} {rest : List Value} {a : Nat} {ws : va_W} {nm ds : String} {fs : List Value} {A : Nat → Prop} {v : Value} (C : Cx E A ⟨RX4, nm, ds⟩ cc n r p s m args meth c) (hP : va_P E.1 classes ws H) (q0 : Nat) (he : ws[q0]? = some (a, .inr (4, fs))) (hv : fs[2]? = some v) (hdg : decode cc pc = .ok (.getfield 18, 3))
    (kk : W p l e R s m args below meth c H locs cells slots Q (F0 m (pc + 3) ls (v :: rest))) : W p l e R s m args below meth c H locs cells slots Q (F0 m pc ls (.ref a :: rest)) :=
  va_get (C := RX4) (T := TX4) (N := 6) (Ts := wl ⟨RX4, nm, ds⟩ cc n r) C.1 C.2.1 C.2.2.2.2.1 (fun w h => List.mem_cons_of_mem _ (inT4 w h)) C.2.2.2.1 C.2.2.2.2.2.1 hP q0 he rfl 2 (by decide) (C.2.2.2.2.1 _ (List.mem_cons_of_mem _ q196)) (fun _ h9 => h9) hv hdg kk
theorem q197 : Cond.fieldLink RX4 21 "SnowForSummer$Rule" "things" "[I" ∈ Tg := Tg_mem 197 (by decide +kernel) (by decide +kernel)
theorem gf_RX4_21 {p : Program} {l : Launch} {e : Env} {R : Room} {s : State} {m : MethodId} {args : Array Value} {below : List Frame} {meth : Method} {c : Code} {H : Heap} {locs : List Loc} {cells slots : Nat} {Q : State → Prop} {E : ENV} {cc : ByteArray} {n : Nat} {r : Option FieldType} {pc : Nat} {ls : Array Slot} {rest : List Value} {a : Nat} {ws : va_W} {nm ds : String} {fs : List Value} {A : Nat → Prop} {v : Value} (C : Cx E A ⟨RX4, nm, ds⟩ cc n r p s m args meth c) (hP : va_P E.1 classes ws H) (q0 : Nat) (he : ws[q0]? = some (a, .inr (4, fs))) (hv : fs[3]? = some v) (hdg : decode cc pc = .ok (.getfield 21, 3))
    (kk : W p l e R s m args below meth c H locs cells slots Q (F0 m (pc + 3) ls (v :: rest))) : W p l e R s m args below meth c H locs cells slots Q (F0 m pc ls (.ref a :: rest)) :=
  va_get (C := RX4) (T := TX4) (N := 6) (Ts := wl ⟨RX4, nm, ds⟩ cc n r) C.1 C.2.1 C.2.2.2.2.1 (fun w h => List.mem_cons_of_mem _ (inT4 w h)) C.2.2.2.1 C.2.2.2.2.2.1 hP q0 he rfl 3 (by decide) (C.2.2.2.2.1 _ (List.mem_cons_of_mem _ q197)) (fun _ h9 => h9) hv hdg kk
theorem q199 : Cond.fieldLink RX4 52 "SnowForSummer$Rule" "length" "I" ∈ Tg := Tg_mem 199 (by decide +kernel) (by decide +kernel)
theorem gf_RX4_52 {p : Program} {l : Launch} {e : Env} {R : Room} {s : State} {m : MethodId} {args : Array Value} {below : List Frame} {meth : Method} {c : Code} {H : Heap} {locs : List Loc} {cells slots : Nat} {Q : State → Prop} {E : ENV} {cc : ByteArray} {n : Nat} {r : Option FieldType} {pc : Nat} {ls : Array Slot} {rest : List Value} {a : Nat} {ws : va_W} {nm ds : String} {fs : List Value} {A : Nat → Prop} {v : Value} (C : Cx E A ⟨RX4, nm, ds⟩ cc n r p s m args meth c) (hP : va_P E.1 classes ws H) (q0 : Nat) (he : ws[q0]? = some (a, .inr (4, fs))) (hv : fs[4]? = some v) (hdg : decode cc pc = .ok (.getfield 52, 3))
    (kk : W p l e R s m args below meth c H locs cells slots Q (F0 m (pc + 3) ls (v :: rest))) : W p l e R s m args below meth c H locs cells slots Q (F0 m pc ls (.ref a :: rest)) :=
  va_get (C := RX4) (T := TX4) (N := 6) (Ts := wl ⟨RX4, nm, ds⟩ cc n r) C.1 C.2.1 C.2.2.2.2.1 (fun w h => List.mem_cons_of_mem _ (inT4 w h)) C.2.2.2.1 C.2.2.2.2.2.1 hP q0 he rfl 4 (by decide) (C.2.2.2.2.1 _ (List.mem_cons_of_mem _ q199)) (fun _ h9 => h9) hv hdg kk
theorem q194 : Cond.fieldLink RX4 11 "SnowForSummer$Rule" "code" "[I" ∈ Tg := Tg_mem 194 (by decide +kernel) (by decide +kernel)
theorem gf_RX4_11 {p : Program} {l : Launch} {e : Env} {R : Room} {s : State} {m : MethodId} {args : Array Value} {below : List Frame} {meth : Method} {c : Code} {H : Heap} {locs : List Loc} {cells slots : Nat} {Q : State → Prop} {E : ENV} {cc : ByteArray} {n : Nat} {r : Option FieldType} {pc : Nat} {ls : Array Slot} {rest : List Value} {a : Nat} {ws : va_W} {nm ds : String} {fs : List Value} {A : Nat → Prop} {v : Value} (C : Cx E A ⟨RX4, nm, ds⟩ cc n r p s m args meth c) (hP : va_P E.1 classes ws H) (q0 : Nat) (he : ws[q0]? = some (a, .inr (4, fs))) (hv : fs[0]? = some v) (hdg : decode cc pc = .ok (.getfield 11, 3))
    (kk : W p l e R s m args below meth c H locs cells slots Q (F0 m (pc + 3) ls (v :: rest))) : W p l e R s m args below meth c H locs cells slots Q (F0 m pc ls (.ref a :: rest)) :=
  va_get (C := RX4) (T := TX4) (N := 6) (Ts := wl ⟨RX4, nm, ds⟩ cc n r) C.1 C.2.1 C.2.2.2.2.1 (fun w h => List.mem_cons_of_mem _ (inT4 w h)) C.2.2.2.1 C.2.2.2.2.2.1 hP q0 he rfl 0 (by decide) (C.2.2.2.2.1 _ (List.mem_cons_of_mem _ q194)) (fun _ h9 => h9) hv hdg kk
theorem K_RX4_91 : KS RX4 91 yX4_join cX4_join 3 (some .int) 3 := ⟨Tg_mem 810 (by decide +kernel) (by decide +kernel), Tg_mem 94 (by decide +kernel) (by decide +kernel), Tg_mem 808 (by decide +kernel) (by decide +kernel), Tg_mem 809 (by decide +kernel) (by decide +kernel), by decide +kernel⟩
theorem q811 : Cond.methodLink RX4 95 Lib.Math.min.name ∈ Tg := Tg_mem 811 (by decide +kernel) (by decide +kernel)
theorem q812 : Cond.methodLink RX4 101 Lib.Math.max.name ∈ Tg := Tg_mem 812 (by decide +kernel) (by decide +kernel)
theorem dX4_daysOwed_0 : decode cX4_daysOwed 0 = .ok (.iconst 0, 1) := by decide +kernel
theorem dX4_daysOwed_1 : decode cX4_daysOwed 1 = .ok (.istore_n 1, 1) := by decide +kernel
theorem dX4_daysOwed_2 : decode cX4_daysOwed 2 = .ok (.aload_n 0, 1) := by decide +kernel
theorem dX4_daysOwed_3 : decode cX4_daysOwed 3 = .ok (.getfield 18, 3) := by decide +kernel
theorem dX4_daysOwed_6 : decode cX4_daysOwed 6 = .ok (.iconst 0, 1) := by decide +kernel
theorem dX4_daysOwed_7 : decode cX4_daysOwed 7 = .ok (.aload_n 0, 1) := by decide +kernel
theorem dX4_daysOwed_8 : decode cX4_daysOwed 8 = .ok (.getfield 21, 3) := by decide +kernel
theorem dX4_daysOwed_11 : decode cX4_daysOwed 11 = .ok (.iconst 0, 1) := by decide +kernel
theorem dX4_daysOwed_12 : decode cX4_daysOwed 12 = .ok (.iaload, 1) := by decide +kernel
theorem dX4_daysOwed_13 : decode cX4_daysOwed 13 = .ok (.iastore, 1) := by decide +kernel
theorem dX4_daysOwed_14 : decode cX4_daysOwed 14 = .ok (.iconst 0, 1) := by decide +kernel
theorem dX4_daysOwed_15 : decode cX4_daysOwed 15 = .ok (.istore_n 2, 1) := by decide +kernel
theorem dX4_daysOwed_16 : decode cX4_daysOwed 16 = .ok (.iload_n 2, 1) := by decide +kernel
theorem dX4_daysOwed_17 : decode cX4_daysOwed 17 = .ok (.aload_n 0, 1) := by decide +kernel
theorem dX4_daysOwed_18 : decode cX4_daysOwed 18 = .ok (.getfield 52, 3) := by decide +kernel
theorem dX4_daysOwed_21 : decode cX4_daysOwed 21 = .ok (.if_icmp .ge 141, 3) := by decide +kernel
theorem dX4_daysOwed_24 : decode cX4_daysOwed 24 = .ok (.iload_n 2, 1) := by decide +kernel
theorem dX4_daysOwed_25 : decode cX4_daysOwed 25 = .ok (.bipush 40, 2) := by decide +kernel
theorem dX4_daysOwed_27 : decode cX4_daysOwed 27 = .ok (.if_icmp .ge 135, 3) := by decide +kernel
theorem dX4_daysOwed_30 : decode cX4_daysOwed 30 = .ok (.aload_n 0, 1) := by decide +kernel
theorem dX4_daysOwed_31 : decode cX4_daysOwed 31 = .ok (.getfield 11, 3) := by decide +kernel
theorem dX4_daysOwed_34 : decode cX4_daysOwed 34 = .ok (.iload_n 2, 1) := by decide +kernel
theorem dX4_daysOwed_35 : decode cX4_daysOwed 35 = .ok (.iaload, 1) := by decide +kernel
theorem dX4_daysOwed_36 : decode cX4_daysOwed 36 = .ok (.istore_n 3, 1) := by decide +kernel
theorem dX4_daysOwed_37 : decode cX4_daysOwed 37 = .ok (.iload_n 3, 1) := by decide +kernel
theorem dX4_daysOwed_38 : decode cX4_daysOwed 38 = .ok (.sipush 3000, 3) := by decide +kernel
theorem dX4_daysOwed_41 : decode cX4_daysOwed 41 = .ok (.if_icmp .ne 28, 3) := by decide +kernel
theorem dX4_daysOwed_44 : decode cX4_daysOwed 44 = .ok (.iload_n 1, 1) := by decide +kernel
theorem dX4_daysOwed_45 : decode cX4_daysOwed 45 = .ok (.iconst 1, 1) := by decide +kernel
theorem dX4_daysOwed_46 : decode cX4_daysOwed 46 = .ok (.if_icmp .lt 110, 3) := by decide +kernel
theorem dX4_daysOwed_49 : decode cX4_daysOwed 49 = .ok (.aload_n 0, 1) := by decide +kernel
theorem dX4_daysOwed_50 : decode cX4_daysOwed 50 = .ok (.getfield 18, 3) := by decide +kernel
theorem dX4_daysOwed_53 : decode cX4_daysOwed 53 = .ok (.iload_n 1, 1) := by decide +kernel
theorem dX4_daysOwed_54 : decode cX4_daysOwed 54 = .ok (.iconst 1, 1) := by decide +kernel
theorem dX4_daysOwed_55 : decode cX4_daysOwed 55 = .ok (.isub, 1) := by decide +kernel
theorem dX4_daysOwed_56 : decode cX4_daysOwed 56 = .ok (.aload_n 0, 1) := by decide +kernel
theorem dX4_daysOwed_57 : decode cX4_daysOwed 57 = .ok (.getfield 18, 3) := by decide +kernel
theorem dX4_daysOwed_60 : decode cX4_daysOwed 60 = .ok (.iload_n 1, 1) := by decide +kernel
theorem dX4_daysOwed_61 : decode cX4_daysOwed 61 = .ok (.iconst 1, 1) := by decide +kernel
theorem dX4_daysOwed_62 : decode cX4_daysOwed 62 = .ok (.isub, 1) := by decide +kernel
theorem dX4_daysOwed_63 : decode cX4_daysOwed 63 = .ok (.iaload, 1) := by decide +kernel
theorem dX4_daysOwed_64 : decode cX4_daysOwed 64 = .ok (.ineg, 1) := by decide +kernel
theorem dX4_daysOwed_65 : decode cX4_daysOwed 65 = .ok (.iastore, 1) := by decide +kernel
theorem dX4_daysOwed_66 : decode cX4_daysOwed 66 = .ok (.goto 90, 3) := by decide +kernel
theorem dX4_daysOwed_69 : decode cX4_daysOwed 69 = .ok (.iload_n 3, 1) := by decide +kernel
theorem dX4_daysOwed_70 : decode cX4_daysOwed 70 = .ok (.sipush 2000, 3) := by decide +kernel
theorem dX4_daysOwed_73 : decode cX4_daysOwed 73 = .ok (.if_icmp .lt 44, 3) := by decide +kernel
theorem dX4_daysOwed_76 : decode cX4_daysOwed 76 = .ok (.iload_n 1, 1) := by decide +kernel
theorem dX4_daysOwed_77 : decode cX4_daysOwed 77 = .ok (.iconst 2, 1) := by decide +kernel
theorem dX4_daysOwed_78 : decode cX4_daysOwed 78 = .ok (.if_icmp .lt 78, 3) := by decide +kernel
theorem dX4_daysOwed_81 : decode cX4_daysOwed 81 = .ok (.iinc 1 (-1), 3) := by decide +kernel
theorem dX4_daysOwed_84 : decode cX4_daysOwed 84 = .ok (.aload_n 0, 1) := by decide +kernel
theorem dX4_daysOwed_85 : decode cX4_daysOwed 85 = .ok (.getfield 18, 3) := by decide +kernel
theorem dX4_daysOwed_88 : decode cX4_daysOwed 88 = .ok (.iload_n 1, 1) := by decide +kernel
theorem dX4_daysOwed_89 : decode cX4_daysOwed 89 = .ok (.iconst 1, 1) := by decide +kernel
theorem dX4_daysOwed_90 : decode cX4_daysOwed 90 = .ok (.isub, 1) := by decide +kernel
theorem dX4_daysOwed_91 : decode cX4_daysOwed 91 = .ok (.iload_n 3, 1) := by decide +kernel
theorem dX4_daysOwed_92 : decode cX4_daysOwed 92 = .ok (.sipush 2000, 3) := by decide +kernel
theorem dX4_daysOwed_95 : decode cX4_daysOwed 95 = .ok (.isub, 1) := by decide +kernel
theorem dX4_daysOwed_96 : decode cX4_daysOwed 96 = .ok (.aload_n 0, 1) := by decide +kernel
theorem dX4_daysOwed_97 : decode cX4_daysOwed 97 = .ok (.getfield 18, 3) := by decide +kernel
theorem dX4_daysOwed_100 : decode cX4_daysOwed 100 = .ok (.iload_n 1, 1) := by decide +kernel
theorem dX4_daysOwed_101 : decode cX4_daysOwed 101 = .ok (.iconst 1, 1) := by decide +kernel
theorem dX4_daysOwed_102 : decode cX4_daysOwed 102 = .ok (.isub, 1) := by decide +kernel
theorem dX4_daysOwed_103 : decode cX4_daysOwed 103 = .ok (.iaload, 1) := by decide +kernel
theorem dX4_daysOwed_104 : decode cX4_daysOwed 104 = .ok (.aload_n 0, 1) := by decide +kernel
theorem dX4_daysOwed_105 : decode cX4_daysOwed 105 = .ok (.getfield 18, 3) := by decide +kernel
theorem dX4_daysOwed_108 : decode cX4_daysOwed 108 = .ok (.iload_n 1, 1) := by decide +kernel
theorem dX4_daysOwed_109 : decode cX4_daysOwed 109 = .ok (.iaload, 1) := by decide +kernel
theorem dX4_daysOwed_110 : decode cX4_daysOwed 110 = .ok (.invokestatic 91, 3) := by decide +kernel
theorem dX4_daysOwed_113 : decode cX4_daysOwed 113 = .ok (.iastore, 1) := by decide +kernel
theorem dX4_daysOwed_114 : decode cX4_daysOwed 114 = .ok (.goto 42, 3) := by decide +kernel
theorem dX4_daysOwed_117 : decode cX4_daysOwed 117 = .ok (.iload_n 1, 1) := by decide +kernel
theorem dX4_daysOwed_118 : decode cX4_daysOwed 118 = .ok (.bipush 40, 2) := by decide +kernel
theorem dX4_daysOwed_120 : decode cX4_daysOwed 120 = .ok (.if_icmp .ge 36, 3) := by decide +kernel
theorem dX4_daysOwed_123 : decode cX4_daysOwed 123 = .ok (.aload_n 0, 1) := by decide +kernel
theorem dX4_daysOwed_124 : decode cX4_daysOwed 124 = .ok (.getfield 18, 3) := by decide +kernel
theorem dX4_daysOwed_127 : decode cX4_daysOwed 127 = .ok (.iload_n 1, 1) := by decide +kernel
theorem dX4_daysOwed_128 : decode cX4_daysOwed 128 = .ok (.iload_n 3, 1) := by decide +kernel
theorem dX4_daysOwed_129 : decode cX4_daysOwed 129 = .ok (.sipush 1000, 3) := by decide +kernel
theorem dX4_daysOwed_132 : decode cX4_daysOwed 132 = .ok (.if_icmp .ge 7, 3) := by decide +kernel
theorem dX4_daysOwed_135 : decode cX4_daysOwed 135 = .ok (.iload_n 3, 1) := by decide +kernel
theorem dX4_daysOwed_136 : decode cX4_daysOwed 136 = .ok (.goto 16, 3) := by decide +kernel
theorem dX4_daysOwed_139 : decode cX4_daysOwed 139 = .ok (.aload_n 0, 1) := by decide +kernel
theorem dX4_daysOwed_140 : decode cX4_daysOwed 140 = .ok (.getfield 21, 3) := by decide +kernel
theorem dX4_daysOwed_143 : decode cX4_daysOwed 143 = .ok (.iload_n 3, 1) := by decide +kernel
theorem dX4_daysOwed_144 : decode cX4_daysOwed 144 = .ok (.sipush 1000, 3) := by decide +kernel
theorem dX4_daysOwed_147 : decode cX4_daysOwed 147 = .ok (.isub, 1) := by decide +kernel
theorem dX4_daysOwed_148 : decode cX4_daysOwed 148 = .ok (.bipush 7, 2) := by decide +kernel
theorem dX4_daysOwed_150 : decode cX4_daysOwed 150 = .ok (.iand, 1) := by decide +kernel
theorem dX4_daysOwed_151 : decode cX4_daysOwed 151 = .ok (.iaload, 1) := by decide +kernel
theorem dX4_daysOwed_152 : decode cX4_daysOwed 152 = .ok (.iastore, 1) := by decide +kernel
theorem dX4_daysOwed_153 : decode cX4_daysOwed 153 = .ok (.iinc 1 1, 3) := by decide +kernel
theorem dX4_daysOwed_156 : decode cX4_daysOwed 156 = .ok (.iinc 2 1, 3) := by decide +kernel
theorem dX4_daysOwed_159 : decode cX4_daysOwed 159 = .ok (.goto (-143), 3) := by decide +kernel
theorem dX4_daysOwed_162 : decode cX4_daysOwed 162 = .ok (.iconst 0, 1) := by decide +kernel
theorem dX4_daysOwed_163 : decode cX4_daysOwed 163 = .ok (.bipush 99, 2) := by decide +kernel
theorem dX4_daysOwed_165 : decode cX4_daysOwed 165 = .ok (.aload_n 0, 1) := by decide +kernel
theorem dX4_daysOwed_166 : decode cX4_daysOwed 166 = .ok (.getfield 18, 3) := by decide +kernel
theorem dX4_daysOwed_169 : decode cX4_daysOwed 169 = .ok (.iconst 0, 1) := by decide +kernel
theorem dX4_daysOwed_170 : decode cX4_daysOwed 170 = .ok (.iaload, 1) := by decide +kernel
theorem dX4_daysOwed_171 : decode cX4_daysOwed 171 = .ok (.invokestatic 95, 3) := by decide +kernel
theorem dX4_daysOwed_174 : decode cX4_daysOwed 174 = .ok (.invokestatic 101, 3) := by decide +kernel
theorem dX4_daysOwed_177 : decode cX4_daysOwed 177 = .ok (.ireturn, 1) := by decide +kernel
def WX4_daysOwed (E : ENV) (q0 : Nat) (q0_code : Nat) (q0_draft : Nat) (q0_stack : Nat) (q0_things : Nat) (i_length : Int32) (i_drafted : Int32) (a_things : Nat → Int32) (a_stack : Nat → Int32) (a_code : Nat → Int32) : va_W := [(q0, .inr (4, [.ref q0_code, .ref q0_draft, .ref q0_stack, .ref q0_things, .int i_length, .int i_drafted])), (q0_things, .inl (E.2.1, 8, .inl a_things)), (q0_stack, .inl (E.2.1, 40, .inl a_stack)), (q0_code, .inl (E.2.1, 40, .inl a_code))]
set_option maxHeartbeats 4000000 in
set_option maxRecDepth 20000 in
theorem kX4_daysOwed (l : Launch) (E : ENV) (q0 : Nat) (q0_code : Nat) (q0_draft : Nat) (q0_stack : Nat) (q0_things : Nat) (i_length : Int32) (i_drafted : Int32) (a_things : Nat → Int32) (a_stack : Nat → Int32) (a_code : Nat → Int32) (r9 : Int32) (a_stack9 : Nat → Int32) (hf : fX4_daysOwed i_length a_things a_stack a_code = some (r9, a_stack9)) : CI l E yX4_daysOwed cX4_daysOwed 4 (some .int) 1 [.ref q0] (WX4_daysOwed E q0 q0_code q0_draft q0_stack q0_things i_length i_drafted a_things a_stack a_code) (WX4_daysOwed E q0 q0_code q0_draft q0_stack q0_things i_length i_drafted a_things a_stack9 a_code) r9 := by
  refine begI (by decide +kernel) (Nat.le_of_ble_eq_true rfl) ?_
  intro p e s m args below meth c A Q C hA hret
  have hx := C.1
  have hb := C.2.1
  have L16 : ∀ (n : Nat) (v1 : Int32) (v2 : Int32) (a_stack : Nat → Int32) (o : (Nat → Int32)), fX4_daysOwed_L16 i_length a_things a_code n v1 v2 a_stack = some o → (GO p l e 1 s m args below meth c Q E A 4 162 [] [(0, .ref q0)] (WX4_daysOwed E q0 q0_code q0_draft q0_stack q0_things i_length i_drafted a_things o a_code)) → GO p l e 1 s m args below meth c Q E A 4 16 [] [(0, .ref q0), (1, .int v1), (2, .int v2)] (WX4_daysOwed E q0 q0_code q0_draft q0_stack q0_things i_length i_drafted a_things a_stack a_code) := by
    intro n
    induction n with
    | zero =>
      intro v1 v2 a_stack o hf
      have hf : none = some o := hf
      cases hf
    | succ n ih =>
      intro v1 v2 a_stack o hf hE
      intro H locs ls hl hP hD hS
      rw [fX4_daysOwed_L16] at hf
      refine lv_iload_n hx hb dX4_daysOwed_16 rfl (lv_at hl 2 rfl) ?_
      refine lv_aload_n hx hb dX4_daysOwed_17 rfl (lv_at hl 0 rfl) ?_
      refine gf_RX4_52 C hP 0 rfl rfl dX4_daysOwed_18 ?_
      refine lv_icmp_ge (tgt := 162) hx hb dX4_daysOwed_21 (by decide) (fun c3 => ?_) (fun c3 => ?_)
      · rw [if_pos c3] at hf
        have hf := Option.some.inj hf
        subst hf
        exact hE _ _ _ (lv_sub hl [0] rfl) hP hD hS
      · rw [if_neg c3] at hf
        refine lv_iload_n hx hb dX4_daysOwed_24 rfl (lv_at hl 2 rfl) ?_
        refine lv_bipush (v := 40) hx hb dX4_daysOwed_25 (by decide) ?_
        refine lv_icmp_ge (tgt := 162) hx hb dX4_daysOwed_27 (by decide) (fun c4 => ?_) (fun c4 => ?_)
        · rw [if_pos c4] at hf
          have hf := Option.some.inj hf
          subst hf
          exact hE _ _ _ (lv_sub hl [0] rfl) hP hD hS
        · rw [if_neg c4] at hf
          refine lv_aload_n hx hb dX4_daysOwed_30 rfl (lv_at hl 0 rfl) ?_
          refine gf_RX4_11 C hP 0 rfl rfl dX4_daysOwed_31 ?_
          refine lv_iload_n hx hb dX4_daysOwed_34 rfl (lv_at hl 2 rfl) ?_
          obtain ⟨g5, hf⟩ := gd_some hf
          refine va_iald hx hb C.2.2.2.2.2.1 hP 3 0 rfl rfl (vin_in g5) dX4_daysOwed_35 ?_
          refine lv_istore_n (lv' := [(3, .int ((a_code (v2 : Int32).toNatClampNeg))), (0, .ref q0), (1, .int v1), (2, .int v2)]) hx hb dX4_daysOwed_36 rfl hl (by decide) rfl (fun ls hl => ?_)
          refine lv_iload_n hx hb dX4_daysOwed_37 rfl (lv_at hl 0 rfl) ?_
          refine lv_sipush (v := 3000) hx hb dX4_daysOwed_38 (by decide) ?_
          refine lv_icmp_ne (tgt := 69) hx hb dX4_daysOwed_41 (by decide) (fun c6 => ?_) (fun c6 => ?_)
          · rw [if_neg c6] at hf
            refine lv_iload_n hx hb dX4_daysOwed_69 rfl (lv_at hl 0 rfl) ?_
            refine lv_sipush (v := 2000) hx hb dX4_daysOwed_70 (by decide) ?_
            refine lv_icmp_lt (tgt := 117) hx hb dX4_daysOwed_73 (by decide) (fun c7 => ?_) (fun c7 => ?_)
            · rw [if_pos c7] at hf
              refine lv_iload_n hx hb dX4_daysOwed_117 rfl (lv_at hl 2 rfl) ?_
              refine lv_bipush (v := 40) hx hb dX4_daysOwed_118 (by decide) ?_
              refine lv_icmp_ge (tgt := 156) hx hb dX4_daysOwed_120 (by decide) (fun c8 => ?_) (fun c8 => ?_)
              · rw [if_pos c8] at hf
                refine lv_iinc (v := (v2 + 1)) (lv' := [(2, .int ((v2 + 1))), (3, .int ((a_code (v2 : Int32).toNatClampNeg))), (0, .ref q0), (1, .int v1)]) hx hb dX4_daysOwed_156 hl (k := 3) rfl rfl (by decide) rfl (fun ls hl => ?_)
                refine lv_goto (tgt := 16) hx hb dX4_daysOwed_159 (by decide) ?_
                exact ih v1 ((v2 + 1)) a_stack _ hf hE _ _ _ (lv_sub hl [2, 3, 0] rfl) hP hD hS
              · rw [if_neg c8] at hf
                refine lv_aload_n hx hb dX4_daysOwed_123 rfl (lv_at hl 1 rfl) ?_
                refine gf_RX4_18 C hP 0 rfl rfl dX4_daysOwed_124 ?_
                refine lv_iload_n hx hb dX4_daysOwed_127 rfl (lv_at hl 2 rfl) ?_
                refine lv_iload_n hx hb dX4_daysOwed_128 rfl (lv_at hl 0 rfl) ?_
                refine lv_sipush (v := 1000) hx hb dX4_daysOwed_129 (by decide) ?_
                refine lv_icmp_ge (tgt := 139) hx hb dX4_daysOwed_132 (by decide) (fun c9 => ?_) (fun c9 => ?_)
                · rw [if_pos c9] at hf
                  refine lv_aload_n hx hb dX4_daysOwed_139 rfl (lv_at hl 1 rfl) ?_
                  refine gf_RX4_21 C hP 0 rfl rfl dX4_daysOwed_140 ?_
                  refine lv_iload_n hx hb dX4_daysOwed_143 rfl (lv_at hl 0 rfl) ?_
                  refine lv_sipush (v := 1000) hx hb dX4_daysOwed_144 (by decide) ?_
                  refine lv_isub hx hb dX4_daysOwed_147 ?_
                  refine lv_bipush (v := 7) hx hb dX4_daysOwed_148 (by decide) ?_
                  refine lv_iand hx hb dX4_daysOwed_150 ?_
                  obtain ⟨g10, hf⟩ := gd_some hf
                  refine va_iald hx hb C.2.2.2.2.2.1 hP 1 0 rfl rfl (vin_in g10) dX4_daysOwed_151 ?_
                  obtain ⟨g11, hf⟩ := gd_some hf
                  refine va_iast hx hb C.2.2.2.2.2.1 hP hD hS 2 0 rfl rfl (vin_in g11) dX4_daysOwed_152 (fun H locs hP hD hS => ?_)
                  have hP : va_P E.1 classes (WX4_daysOwed E q0 q0_code q0_draft q0_stack q0_things i_length i_drafted a_things ((upd a_stack (v1 : Int32).toNatClampNeg ((a_things ((((((a_code (v2 : Int32).toNatClampNeg)) - 1000)) &&& 7) : Int32).toNatClampNeg)))) a_code) H := hP
                  have hD : va_D A (WX4_daysOwed E q0 q0_code q0_draft q0_stack q0_things i_length i_drafted a_things ((upd a_stack (v1 : Int32).toNatClampNeg ((a_things ((((((a_code (v2 : Int32).toNatClampNeg)) - 1000)) &&& 7) : Int32).toNatClampNeg)))) a_code) := hD
                  refine lv_iinc (v := (v1 + 1)) (lv' := [(1, .int ((v1 + 1))), (3, .int ((a_code (v2 : Int32).toNatClampNeg))), (0, .ref q0), (2, .int v2)]) hx hb dX4_daysOwed_153 hl (k := 2) rfl rfl (by decide) rfl (fun ls hl => ?_)
                  refine lv_iinc (v := (v2 + 1)) (lv' := [(2, .int ((v2 + 1))), (1, .int ((v1 + 1))), (3, .int ((a_code (v2 : Int32).toNatClampNeg))), (0, .ref q0)]) hx hb dX4_daysOwed_156 hl (k := 3) rfl rfl (by decide) rfl (fun ls hl => ?_)
                  refine lv_goto (tgt := 16) hx hb dX4_daysOwed_159 (by decide) ?_
                  exact ih ((v1 + 1)) ((v2 + 1)) ((upd a_stack (v1 : Int32).toNatClampNeg ((a_things ((((((a_code (v2 : Int32).toNatClampNeg)) - 1000)) &&& 7) : Int32).toNatClampNeg)))) _ hf hE _ _ _ (lv_sub hl [3, 1, 0] rfl) hP hD hS
                · rw [if_neg c9] at hf
                  refine lv_iload_n hx hb dX4_daysOwed_135 rfl (lv_at hl 0 rfl) ?_
                  refine lv_goto (tgt := 152) hx hb dX4_daysOwed_136 (by decide) ?_
                  obtain ⟨g12, hf⟩ := gd_some hf
                  refine va_iast hx hb C.2.2.2.2.2.1 hP hD hS 2 0 rfl rfl (vin_in g12) dX4_daysOwed_152 (fun H locs hP hD hS => ?_)
                  have hP : va_P E.1 classes (WX4_daysOwed E q0 q0_code q0_draft q0_stack q0_things i_length i_drafted a_things ((upd a_stack (v1 : Int32).toNatClampNeg ((a_code (v2 : Int32).toNatClampNeg)))) a_code) H := hP
                  have hD : va_D A (WX4_daysOwed E q0 q0_code q0_draft q0_stack q0_things i_length i_drafted a_things ((upd a_stack (v1 : Int32).toNatClampNeg ((a_code (v2 : Int32).toNatClampNeg)))) a_code) := hD
                  refine lv_iinc (v := (v1 + 1)) (lv' := [(1, .int ((v1 + 1))), (3, .int ((a_code (v2 : Int32).toNatClampNeg))), (0, .ref q0), (2, .int v2)]) hx hb dX4_daysOwed_153 hl (k := 2) rfl rfl (by decide) rfl (fun ls hl => ?_)
                  refine lv_iinc (v := (v2 + 1)) (lv' := [(2, .int ((v2 + 1))), (1, .int ((v1 + 1))), (3, .int ((a_code (v2 : Int32).toNatClampNeg))), (0, .ref q0)]) hx hb dX4_daysOwed_156 hl (k := 3) rfl rfl (by decide) rfl (fun ls hl => ?_)
                  refine lv_goto (tgt := 16) hx hb dX4_daysOwed_159 (by decide) ?_
                  exact ih ((v1 + 1)) ((v2 + 1)) ((upd a_stack (v1 : Int32).toNatClampNeg ((a_code (v2 : Int32).toNatClampNeg)))) _ hf hE _ _ _ (lv_sub hl [3, 1, 0] rfl) hP hD hS
            · rw [if_neg c7] at hf
              refine lv_iload_n hx hb dX4_daysOwed_76 rfl (lv_at hl 2 rfl) ?_
              refine lv_iconst (v := 2) hx hb dX4_daysOwed_77 (by decide) ?_
              refine lv_icmp_lt (tgt := 156) hx hb dX4_daysOwed_78 (by decide) (fun c13 => ?_) (fun c13 => ?_)
              · rw [if_pos c13] at hf
                refine lv_iinc (v := (v2 + 1)) (lv' := [(2, .int ((v2 + 1))), (3, .int ((a_code (v2 : Int32).toNatClampNeg))), (0, .ref q0), (1, .int v1)]) hx hb dX4_daysOwed_156 hl (k := 3) rfl rfl (by decide) rfl (fun ls hl => ?_)
                refine lv_goto (tgt := 16) hx hb dX4_daysOwed_159 (by decide) ?_
                exact ih v1 ((v2 + 1)) a_stack _ hf hE _ _ _ (lv_sub hl [2, 3, 0] rfl) hP hD hS
              · rw [if_neg c13] at hf
                refine lv_iinc (v := (v1 + (-1))) (lv' := [(1, .int ((v1 + (-1)))), (3, .int ((a_code (v2 : Int32).toNatClampNeg))), (0, .ref q0), (2, .int v2)]) hx hb dX4_daysOwed_81 hl (k := 2) rfl rfl (by decide) rfl (fun ls hl => ?_)
                refine lv_aload_n hx hb dX4_daysOwed_84 rfl (lv_at hl 2 rfl) ?_
                refine gf_RX4_18 C hP 0 rfl rfl dX4_daysOwed_85 ?_
                refine lv_iload_n hx hb dX4_daysOwed_88 rfl (lv_at hl 0 rfl) ?_
                refine lv_iconst (v := 1) hx hb dX4_daysOwed_89 (by decide) ?_
                refine lv_isub hx hb dX4_daysOwed_90 ?_
                refine lv_iload_n hx hb dX4_daysOwed_91 rfl (lv_at hl 1 rfl) ?_
                refine lv_sipush (v := 2000) hx hb dX4_daysOwed_92 (by decide) ?_
                refine lv_isub hx hb dX4_daysOwed_95 ?_
                refine lv_aload_n hx hb dX4_daysOwed_96 rfl (lv_at hl 2 rfl) ?_
                refine gf_RX4_18 C hP 0 rfl rfl dX4_daysOwed_97 ?_
                refine lv_iload_n hx hb dX4_daysOwed_100 rfl (lv_at hl 0 rfl) ?_
                refine lv_iconst (v := 1) hx hb dX4_daysOwed_101 (by decide) ?_
                refine lv_isub hx hb dX4_daysOwed_102 ?_
                obtain ⟨g14, hf⟩ := gd_some hf
                refine va_iald hx hb C.2.2.2.2.2.1 hP 2 0 rfl rfl (vin_in g14) dX4_daysOwed_103 ?_
                refine lv_aload_n hx hb dX4_daysOwed_104 rfl (lv_at hl 2 rfl) ?_
                refine gf_RX4_18 C hP 0 rfl rfl dX4_daysOwed_105 ?_
                refine lv_iload_n hx hb dX4_daysOwed_108 rfl (lv_at hl 0 rfl) ?_
                obtain ⟨g15, hf⟩ := gd_some hf
                refine va_iald hx hb C.2.2.2.2.2.1 hP 2 0 rfl rfl (vin_in g15) dX4_daysOwed_109 ?_
                obtain ⟨o16, hg17, hf⟩ := bd_some hf
                refine k_SI (As := [.int ((((a_code (v2 : Int32).toNatClampNeg)) - 2000)), .int ((a_stack ((((v1 + (-1))) - 1) : Int32).toNatClampNeg)), .int ((a_stack ((v1 + (-1)) : Int32).toNatClampNeg))]) C K_RX4_91 (Nat.le_of_ble_eq_true rfl) (Nat.le_of_ble_eq_true rfl) (kX4_join l E ((((a_code (v2 : Int32).toNatClampNeg)) - 2000)) ((a_stack ((((v1 + (-1))) - 1) : Int32).toNatClampNeg)) ((a_stack ((v1 + (-1)) : Int32).toNatClampNeg)) o16 hg17) [] rfl rfl rfl  hP hD hS hA hl.1 (Nat.le_of_ble_eq_true rfl) rfl dX4_daysOwed_110 (fun H locs hP hD hS => ?_)
                have hP : va_P E.1 classes (WX4_daysOwed E q0 q0_code q0_draft q0_stack q0_things i_length i_drafted a_things a_stack a_code) H := hP
                have hD : va_D A (WX4_daysOwed E q0 q0_code q0_draft q0_stack q0_things i_length i_drafted a_things a_stack a_code) := hD
                obtain ⟨g18, hf⟩ := gd_some hf
                refine va_iast hx hb C.2.2.2.2.2.1 hP hD hS 2 0 rfl rfl (vin_in g18) dX4_daysOwed_113 (fun H locs hP hD hS => ?_)
                have hP : va_P E.1 classes (WX4_daysOwed E q0 q0_code q0_draft q0_stack q0_things i_length i_drafted a_things ((upd a_stack ((((v1 + (-1))) - 1) : Int32).toNatClampNeg o16)) a_code) H := hP
                have hD : va_D A (WX4_daysOwed E q0 q0_code q0_draft q0_stack q0_things i_length i_drafted a_things ((upd a_stack ((((v1 + (-1))) - 1) : Int32).toNatClampNeg o16)) a_code) := hD
                refine lv_goto (tgt := 156) hx hb dX4_daysOwed_114 (by decide) ?_
                refine lv_iinc (v := (v2 + 1)) (lv' := [(2, .int ((v2 + 1))), (1, .int ((v1 + (-1)))), (3, .int ((a_code (v2 : Int32).toNatClampNeg))), (0, .ref q0)]) hx hb dX4_daysOwed_156 hl (k := 3) rfl rfl (by decide) rfl (fun ls hl => ?_)
                refine lv_goto (tgt := 16) hx hb dX4_daysOwed_159 (by decide) ?_
                exact ih ((v1 + (-1))) ((v2 + 1)) ((upd a_stack ((((v1 + (-1))) - 1) : Int32).toNatClampNeg o16)) _ hf hE _ _ _ (lv_sub hl [3, 1, 0] rfl) hP hD hS
          · rw [if_pos c6] at hf
            refine lv_iload_n hx hb dX4_daysOwed_44 rfl (lv_at hl 2 rfl) ?_
            refine lv_iconst (v := 1) hx hb dX4_daysOwed_45 (by decide) ?_
            refine lv_icmp_lt (tgt := 156) hx hb dX4_daysOwed_46 (by decide) (fun c19 => ?_) (fun c19 => ?_)
            · rw [if_pos c19] at hf
              refine lv_iinc (v := (v2 + 1)) (lv' := [(2, .int ((v2 + 1))), (3, .int ((a_code (v2 : Int32).toNatClampNeg))), (0, .ref q0), (1, .int v1)]) hx hb dX4_daysOwed_156 hl (k := 3) rfl rfl (by decide) rfl (fun ls hl => ?_)
              refine lv_goto (tgt := 16) hx hb dX4_daysOwed_159 (by decide) ?_
              exact ih v1 ((v2 + 1)) a_stack _ hf hE _ _ _ (lv_sub hl [2, 3, 0] rfl) hP hD hS
            · rw [if_neg c19] at hf
              refine lv_aload_n hx hb dX4_daysOwed_49 rfl (lv_at hl 1 rfl) ?_
              refine gf_RX4_18 C hP 0 rfl rfl dX4_daysOwed_50 ?_
              refine lv_iload_n hx hb dX4_daysOwed_53 rfl (lv_at hl 2 rfl) ?_
              refine lv_iconst (v := 1) hx hb dX4_daysOwed_54 (by decide) ?_
              refine lv_isub hx hb dX4_daysOwed_55 ?_
              refine lv_aload_n hx hb dX4_daysOwed_56 rfl (lv_at hl 1 rfl) ?_
              refine gf_RX4_18 C hP 0 rfl rfl dX4_daysOwed_57 ?_
              refine lv_iload_n hx hb dX4_daysOwed_60 rfl (lv_at hl 2 rfl) ?_
              refine lv_iconst (v := 1) hx hb dX4_daysOwed_61 (by decide) ?_
              refine lv_isub hx hb dX4_daysOwed_62 ?_
              obtain ⟨g20, hf⟩ := gd_some hf
              refine va_iald hx hb C.2.2.2.2.2.1 hP 2 0 rfl rfl (vin_in g20) dX4_daysOwed_63 ?_
              refine lv_ineg hx hb dX4_daysOwed_64 ?_
              obtain ⟨g21, hf⟩ := gd_some hf
              refine va_iast hx hb C.2.2.2.2.2.1 hP hD hS 2 0 rfl rfl (vin_in g21) dX4_daysOwed_65 (fun H locs hP hD hS => ?_)
              have hP : va_P E.1 classes (WX4_daysOwed E q0 q0_code q0_draft q0_stack q0_things i_length i_drafted a_things ((upd a_stack ((v1 - 1) : Int32).toNatClampNeg ((-((a_stack ((v1 - 1) : Int32).toNatClampNeg)))))) a_code) H := hP
              have hD : va_D A (WX4_daysOwed E q0 q0_code q0_draft q0_stack q0_things i_length i_drafted a_things ((upd a_stack ((v1 - 1) : Int32).toNatClampNeg ((-((a_stack ((v1 - 1) : Int32).toNatClampNeg)))))) a_code) := hD
              refine lv_goto (tgt := 156) hx hb dX4_daysOwed_66 (by decide) ?_
              refine lv_iinc (v := (v2 + 1)) (lv' := [(2, .int ((v2 + 1))), (3, .int ((a_code (v2 : Int32).toNatClampNeg))), (0, .ref q0), (1, .int v1)]) hx hb dX4_daysOwed_156 hl (k := 3) rfl rfl (by decide) rfl (fun ls hl => ?_)
              refine lv_goto (tgt := 16) hx hb dX4_daysOwed_159 (by decide) ?_
              exact ih v1 ((v2 + 1)) ((upd a_stack ((v1 - 1) : Int32).toNatClampNeg ((-((a_stack ((v1 - 1) : Int32).toNatClampNeg)))))) _ hf hE _ _ _ (lv_sub hl [2, 3, 0] rfl) hP hD hS
  have J162 : ∀ (a_stack : Nat → Int32), fX4_daysOwed_J162 a_stack = some (r9, a_stack9) → GO p l e 1 s m args below meth c Q E A 4 162 [] [(0, .ref q0)] (WX4_daysOwed E q0 q0_code q0_draft q0_stack q0_things i_length i_drafted a_things a_stack a_code) := by
    intro a_stack hf H locs ls hl hP hD hS
    unfold fX4_daysOwed_J162 at hf
    refine lv_iconst (v := 0) hx hb dX4_daysOwed_162 (by decide) ?_
    refine lv_bipush (v := 99) hx hb dX4_daysOwed_163 (by decide) ?_
    refine lv_aload_n hx hb dX4_daysOwed_165 rfl (lv_at hl 0 rfl) ?_
    refine gf_RX4_18 C hP 0 rfl rfl dX4_daysOwed_166 ?_
    refine lv_iconst (v := 0) hx hb dX4_daysOwed_169 (by decide) ?_
    obtain ⟨g24, hf⟩ := gd_some hf
    refine va_iald hx hb C.2.2.2.2.2.1 hP 2 0 rfl rfl (vin_in g24) dX4_daysOwed_170 ?_
    refine r_min C q811 (Nat.le_of_ble_eq_true rfl) hl.1 (Nat.le_of_ble_eq_true rfl) dX4_daysOwed_171 ?_
    refine r_max C q812 (Nat.le_of_ble_eq_true rfl) hl.1 (Nat.le_of_ble_eq_true rfl) dX4_daysOwed_174 ?_
    have hj0 := Option.some.inj hf
    obtain ⟨ha0, hj1⟩ := Prod.mk.inj hj0
    subst ha0
    subst hj1
    exact hret _ _ _ _ dX4_daysOwed_177 rfl hP hD hS
  intro H locs ls hl hP hD hS
  have hl : lv_has ls 4 [(0, .ref q0)] := hl
  unfold fX4_daysOwed at hf
  refine lv_iconst (v := 0) hx hb dX4_daysOwed_0 (by decide) ?_
  refine lv_istore_n (lv' := [(1, .int 0), (0, .ref q0)]) hx hb dX4_daysOwed_1 rfl hl (by decide) rfl (fun ls hl => ?_)
  refine lv_aload_n hx hb dX4_daysOwed_2 rfl (lv_at hl 1 rfl) ?_
  refine gf_RX4_18 C hP 0 rfl rfl dX4_daysOwed_3 ?_
  refine lv_iconst (v := 0) hx hb dX4_daysOwed_6 (by decide) ?_
  refine lv_aload_n hx hb dX4_daysOwed_7 rfl (lv_at hl 1 rfl) ?_
  refine gf_RX4_21 C hP 0 rfl rfl dX4_daysOwed_8 ?_
  refine lv_iconst (v := 0) hx hb dX4_daysOwed_11 (by decide) ?_
  obtain ⟨g1, hf⟩ := gd_some hf
  refine va_iald hx hb C.2.2.2.2.2.1 hP 1 0 rfl rfl (vin_in g1) dX4_daysOwed_12 ?_
  obtain ⟨g2, hf⟩ := gd_some hf
  refine va_iast hx hb C.2.2.2.2.2.1 hP hD hS 2 0 rfl rfl (vin_in g2) dX4_daysOwed_13 (fun H locs hP hD hS => ?_)
  have hP : va_P E.1 classes (WX4_daysOwed E q0 q0_code q0_draft q0_stack q0_things i_length i_drafted a_things ((upd a_stack (0 : Int32).toNatClampNeg ((a_things (0 : Int32).toNatClampNeg)))) a_code) H := hP
  have hD : va_D A (WX4_daysOwed E q0 q0_code q0_draft q0_stack q0_things i_length i_drafted a_things ((upd a_stack (0 : Int32).toNatClampNeg ((a_things (0 : Int32).toNatClampNeg)))) a_code) := hD
  refine lv_iconst (v := 0) hx hb dX4_daysOwed_14 (by decide) ?_
  refine lv_istore_n (lv' := [(2, .int 0), (1, .int 0), (0, .ref q0)]) hx hb dX4_daysOwed_15 rfl hl (by decide) rfl (fun ls hl => ?_)
  obtain ⟨o22, hg23, hf⟩ := bd_some hf
  refine L16 FU 0 0 ((upd a_stack (0 : Int32).toNatClampNeg ((a_things (0 : Int32).toNatClampNeg)))) o22 hg23 ?_ _ _ _ (lv_sub hl [2, 1, 0] rfl) hP hD hS
  intro H locs ls hl hP hD hS
  exact J162 o22 hf _ _ _ (lv_sub hl [0] rfl) hP hD hS
theorem dX5_owe_0 : decode cX5_owe 0 = .ok (.iload_n 1, 1) := by decide +kernel
theorem dX5_owe_1 : decode cX5_owe 1 = .ok (.bipush 7, 2) := by decide +kernel
theorem dX5_owe_3 : decode cX5_owe 3 = .ok (.imul, 1) := by decide +kernel
theorem dX5_owe_4 : decode cX5_owe 4 = .ok (.iload_n 2, 1) := by decide +kernel
theorem dX5_owe_5 : decode cX5_owe 5 = .ok (.iadd, 1) := by decide +kernel
theorem dX5_owe_6 : decode cX5_owe 6 = .ok (.istore 4, 2) := by decide +kernel
theorem dX5_owe_8 : decode cX5_owe 8 = .ok (.aload_n 0, 1) := by decide +kernel
theorem dX5_owe_9 : decode cX5_owe 9 = .ok (.getfield 18, 3) := by decide +kernel
theorem dX5_owe_12 : decode cX5_owe 12 = .ok (.iload 4, 2) := by decide +kernel
theorem dX5_owe_14 : decode cX5_owe 14 = .ok (.sipush 9999, 3) := by decide +kernel
theorem dX5_owe_17 : decode cX5_owe 17 = .ok (.aload_n 0, 1) := by decide +kernel
theorem dX5_owe_18 : decode cX5_owe 18 = .ok (.getfield 18, 3) := by decide +kernel
theorem dX5_owe_21 : decode cX5_owe 21 = .ok (.iload 4, 2) := by decide +kernel
theorem dX5_owe_23 : decode cX5_owe 23 = .ok (.iaload, 1) := by decide +kernel
theorem dX5_owe_24 : decode cX5_owe 24 = .ok (.iload_n 3, 1) := by decide +kernel
theorem dX5_owe_25 : decode cX5_owe 25 = .ok (.iadd, 1) := by decide +kernel
theorem dX5_owe_26 : decode cX5_owe 26 = .ok (.invokestatic 42, 3) := by decide +kernel
theorem dX5_owe_29 : decode cX5_owe 29 = .ok (.iastore, 1) := by decide +kernel
theorem dX5_owe_30 : decode cX5_owe 30 = .ok (.return_, 1) := by decide +kernel
def WX5_owe (E : ENV) (q0 : Nat) (q0_snow : Nat) (q0_path : Nat) (q0_debt : Nat) (i_now : Int32) (a_debt : Nat → Int32) : va_W := [(q0, .inr (5, [.ref q0_snow, .ref q0_path, .ref q0_debt, .int i_now])), (q0_debt, .inl (E.2.1, 49, .inl a_debt))]
set_option maxHeartbeats 4000000 in
set_option maxRecDepth 20000 in
theorem kX5_owe (l : Launch) (E : ENV) (q0 : Nat) (q0_snow : Nat) (q0_path : Nat) (q0_debt : Nat) (i_now : Int32) (a_debt : Nat → Int32) (p1 : Int32) (p2 : Int32) (p3 : Int32) (a_debt9 : Nat → Int32) (hf : fX5_owe a_debt p1 p2 p3 = some a_debt9) : CV l E yX5_owe cX5_owe 5 1 [.ref q0, .int p1, .int p2, .int p3] (WX5_owe E q0 q0_snow q0_path q0_debt i_now a_debt) (WX5_owe E q0 q0_snow q0_path q0_debt i_now a_debt9) := by
  refine begV (by decide +kernel) (Nat.le_of_ble_eq_true rfl) ?_
  intro p e s m args below meth c A Q C hA hret
  have hx := C.1
  have hb := C.2.1
  intro H locs ls hl hP hD hS
  have hl : lv_has ls 5 [(0, .ref q0), (1, .int p1), (2, .int p2), (3, .int p3)] := hl
  unfold fX5_owe at hf
  refine lv_iload_n hx hb dX5_owe_0 rfl (lv_at hl 1 rfl) ?_
  refine lv_bipush (v := 7) hx hb dX5_owe_1 (by decide) ?_
  refine lv_imul hx hb dX5_owe_3 ?_
  refine lv_iload_n hx hb dX5_owe_4 rfl (lv_at hl 2 rfl) ?_
  refine lv_iadd hx hb dX5_owe_5 ?_
  refine lv_istore (lv' := [(4, .int ((((p1 * 7)) + p2))), (0, .ref q0), (1, .int p1), (2, .int p2), (3, .int p3)]) hx hb dX5_owe_6 hl (by decide) rfl (fun ls hl => ?_)
  refine lv_aload_n hx hb dX5_owe_8 rfl (lv_at hl 1 rfl) ?_
  refine gf_RX5_18 C hP 0 rfl rfl dX5_owe_9 ?_
  refine lv_iload hx hb dX5_owe_12 (lv_at hl 0 rfl) ?_
  refine lv_sipush (v := 9999) hx hb dX5_owe_14 (by decide) ?_
  refine lv_aload_n hx hb dX5_owe_17 rfl (lv_at hl 1 rfl) ?_
  refine gf_RX5_18 C hP 0 rfl rfl dX5_owe_18 ?_
  refine lv_iload hx hb dX5_owe_21 (lv_at hl 0 rfl) ?_
  obtain ⟨g1, hf⟩ := gd_some hf
  refine va_iald hx hb C.2.2.2.2.2.1 hP 1 0 rfl rfl (vin_in g1) dX5_owe_23 ?_
  refine lv_iload_n hx hb dX5_owe_24 rfl (lv_at hl 4 rfl) ?_
  refine lv_iadd hx hb dX5_owe_25 ?_
  refine r_min C q797 (Nat.le_of_ble_eq_true rfl) hl.1 (Nat.le_of_ble_eq_true rfl) dX5_owe_26 ?_
  obtain ⟨g2, hf⟩ := gd_some hf
  refine va_iast hx hb C.2.2.2.2.2.1 hP hD hS 1 0 rfl rfl (vin_in g2) dX5_owe_29 (fun H locs hP hD hS => ?_)
  have hP : va_P E.1 classes (WX5_owe E q0 q0_snow q0_path q0_debt i_now ((upd a_debt ((((p1 * 7)) + p2) : Int32).toNatClampNeg ((mn 9999 ((((a_debt ((((p1 * 7)) + p2) : Int32).toNatClampNeg)) + p3))))))) H := hP
  have hD : va_D A (WX5_owe E q0 q0_snow q0_path q0_debt i_now ((upd a_debt ((((p1 * 7)) + p2) : Int32).toNatClampNeg ((mn 9999 ((((a_debt ((((p1 * 7)) + p2) : Int32).toNatClampNeg)) + p3))))))) := hD
  have hj0 := Option.some.inj hf
  subst hj0
  exact hret _ _ _ _ dX5_owe_30 hP hD hS
theorem q200 : Cond.fieldLink RX4 30 "SnowForSummer$Rule" "drafted" "I" ∈ Tg := Tg_mem 200 (by decide +kernel) (by decide +kernel)
theorem gf_RX4_30 {p : Program} {l : Launch} {e : Env} {R : Room} {s : State} {m : MethodId} {args : Array Value} {below : List Frame} {meth : Method} {c : Code} {H : Heap} {locs : List Loc} {cells slots : Nat} {Q : State → Prop} {E : ENV} {cc : ByteArray} {n : Nat} {r : Option FieldType} {pc : Nat} {ls : Array Slot} {rest : List Value} {a : Nat} {ws : va_W} {nm ds : String} {fs : List Value} {A : Nat → Prop} {v : Value} (C : Cx E A ⟨RX4, nm, ds⟩ cc n r p s m args meth c) (hP : va_P E.1 classes ws H) (q0 : Nat) (he : ws[q0]? = some (a, .inr (4, fs))) (hv : fs[5]? = some v) (hdg : decode cc pc = .ok (.getfield 30, 3))
    (kk : W p l e R s m args below meth c H locs cells slots Q (F0 m (pc + 3) ls (v :: rest))) : W p l e R s m args below meth c H locs cells slots Q (F0 m pc ls (.ref a :: rest)) :=
  va_get (C := RX4) (T := TX4) (N := 6) (Ts := wl ⟨RX4, nm, ds⟩ cc n r) C.1 C.2.1 C.2.2.2.2.1 (fun w h => List.mem_cons_of_mem _ (inT4 w h)) C.2.2.2.1 C.2.2.2.2.2.1 hP q0 he rfl 5 (by decide) (C.2.2.2.2.1 _ (List.mem_cons_of_mem _ q200)) (fun _ h9 => h9) hv hdg kk
theorem q195 : Cond.fieldLink RX4 15 "SnowForSummer$Rule" "draft" "[I" ∈ Tg := Tg_mem 195 (by decide +kernel) (by decide +kernel)
theorem gf_RX4_15 {p : Program} {l : Launch} {e : Env} {R : Room} {s : State} {m : MethodId} {args : Array Value} {below : List Frame} {meth : Method} {c : Code} {H : Heap} {locs : List Loc} {cells slots : Nat} {Q : State → Prop} {E : ENV} {cc : ByteArray} {n : Nat} {r : Option FieldType} {pc : Nat} {ls : Array Slot} {rest : List Value} {a : Nat} {ws : va_W} {nm ds : String} {fs : List Value} {A : Nat → Prop} {v : Value} (C : Cx E A ⟨RX4, nm, ds⟩ cc n r p s m args meth c) (hP : va_P E.1 classes ws H) (q0 : Nat) (he : ws[q0]? = some (a, .inr (4, fs))) (hv : fs[1]? = some v) (hdg : decode cc pc = .ok (.getfield 15, 3))
    (kk : W p l e R s m args below meth c H locs cells slots Q (F0 m (pc + 3) ls (v :: rest))) : W p l e R s m args below meth c H locs cells slots Q (F0 m pc ls (.ref a :: rest)) :=
  va_get (C := RX4) (T := TX4) (N := 6) (Ts := wl ⟨RX4, nm, ds⟩ cc n r) C.1 C.2.1 C.2.2.2.2.1 (fun w h => List.mem_cons_of_mem _ (inT4 w h)) C.2.2.2.1 C.2.2.2.2.2.1 hP q0 he rfl 1 (by decide) (C.2.2.2.2.1 _ (List.mem_cons_of_mem _ q195)) (fun _ h9 => h9) hv hdg kk
theorem pf_RX4_30 {p : Program} {l : Launch} {e : Env} {R : Room} {s : State} {m : MethodId} {args : Array Value} {below : List Frame} {meth : Method} {c : Code} {H : Heap} {locs : List Loc} {cells slots : Nat} {Q : State → Prop} {E : ENV} {cc : ByteArray} {n : Nat} {r : Option FieldType} {pc : Nat} {ls : Array Slot} {rest : List Value} {a : Nat} {ws : va_W} {nm ds : String} {fs : List Value} {A : Nat → Prop} {H0 : Heap} {x : Int32} (C : Cx E A ⟨RX4, nm, ds⟩ cc n r p s m args meth c) (hP : va_P E.1 classes ws H) (hD : va_D A ws) (hS : va_S A H0 H locs) (q0 : Nat) (he : ws[q0]? = some (a, .inr (4, fs))) (hl : 5 < fs.length) (hdg : decode cc pc = .ok (.putfield 30, 3))
    (kk : ∀ (H1 : Heap) (locs1 : List Loc), va_P E.1 classes (ws.set q0 (a, .inr (4, fs.set 5 (.int x)))) H1 → va_D A (ws.set q0 (a, .inr (4, fs.set 5 (.int x)))) → va_S A H0 H1 locs1 → W p l e R s m args below meth c H1 locs1 cells slots Q (F0 m (pc + 3) ls rest)) : W p l e R s m args below meth c H locs cells slots Q (F0 m pc ls (.int x :: .ref a :: rest)) :=
  va_put (C := RX4) (T := TX4) (N := 6) (ty := .int) (Ts := wl ⟨RX4, nm, ds⟩ cc n r) C.1 C.2.1 C.2.2.2.2.1 (fun w h => List.mem_cons_of_mem _ (inT4 w h)) tyX4 tyX4_ok nmX4 C.2.2.2.1 C.2.2.2.2.2.1 hP hD hS q0 he rfl 5 (by decide) (C.2.2.2.2.1 _ (List.mem_cons_of_mem _ q200)) (fun _ h9 => h9) rfl (by decide +kernel) rfl rfl hl hdg kk
theorem dX4_put_0 : decode cX4_put 0 = .ok (.aload_n 0, 1) := by decide +kernel
theorem dX4_put_1 : decode cX4_put 1 = .ok (.getfield 30, 3) := by decide +kernel
theorem dX4_put_4 : decode cX4_put 4 = .ok (.bipush 40, 2) := by decide +kernel
theorem dX4_put_6 : decode cX4_put 6 = .ok (.if_icmp .ge 23, 3) := by decide +kernel
theorem dX4_put_9 : decode cX4_put 9 = .ok (.aload_n 0, 1) := by decide +kernel
theorem dX4_put_10 : decode cX4_put 10 = .ok (.getfield 15, 3) := by decide +kernel
theorem dX4_put_13 : decode cX4_put 13 = .ok (.aload_n 0, 1) := by decide +kernel
theorem dX4_put_14 : decode cX4_put 14 = .ok (.getfield 30, 3) := by decide +kernel
theorem dX4_put_17 : decode cX4_put 17 = .ok (.iload_n 1, 1) := by decide +kernel
theorem dX4_put_18 : decode cX4_put 18 = .ok (.iastore, 1) := by decide +kernel
theorem dX4_put_19 : decode cX4_put 19 = .ok (.aload_n 0, 1) := by decide +kernel
theorem dX4_put_20 : decode cX4_put 20 = .ok (.dup, 1) := by decide +kernel
theorem dX4_put_21 : decode cX4_put 21 = .ok (.getfield 30, 3) := by decide +kernel
theorem dX4_put_24 : decode cX4_put 24 = .ok (.iconst 1, 1) := by decide +kernel
theorem dX4_put_25 : decode cX4_put 25 = .ok (.iadd, 1) := by decide +kernel
theorem dX4_put_26 : decode cX4_put 26 = .ok (.putfield 30, 3) := by decide +kernel
theorem dX4_put_29 : decode cX4_put 29 = .ok (.return_, 1) := by decide +kernel
def WX4_put (E : ENV) (q0 : Nat) (q0_code : Nat) (q0_draft : Nat) (q0_stack : Nat) (q0_things : Nat) (i_length : Int32) (i_drafted : Int32) (a_draft : Nat → Int32) : va_W := [(q0, .inr (4, [.ref q0_code, .ref q0_draft, .ref q0_stack, .ref q0_things, .int i_length, .int i_drafted])), (q0_draft, .inl (E.2.1, 40, .inl a_draft))]
set_option maxHeartbeats 4000000 in
set_option maxRecDepth 20000 in
theorem kX4_put (l : Launch) (E : ENV) (q0 : Nat) (q0_code : Nat) (q0_draft : Nat) (q0_stack : Nat) (q0_things : Nat) (i_length : Int32) (i_drafted : Int32) (a_draft : Nat → Int32) (p1 : Int32) (i_drafted9 : Int32) (a_draft9 : Nat → Int32) (hf : fX4_put i_drafted a_draft p1 = some (i_drafted9, a_draft9)) : CV l E yX4_put cX4_put 2 0 [.ref q0, .int p1] (WX4_put E q0 q0_code q0_draft q0_stack q0_things i_length i_drafted a_draft) (WX4_put E q0 q0_code q0_draft q0_stack q0_things i_length i_drafted9 a_draft9) := by
  refine begV (by decide +kernel) (Nat.le_of_ble_eq_true rfl) ?_
  intro p e s m args below meth c A Q C hA hret
  have hx := C.1
  have hb := C.2.1
  intro H locs ls hl hP hD hS
  have hl : lv_has ls 2 [(0, .ref q0), (1, .int p1)] := hl
  unfold fX4_put at hf
  refine lv_aload_n hx hb dX4_put_0 rfl (lv_at hl 0 rfl) ?_
  refine gf_RX4_30 C hP 0 rfl rfl dX4_put_1 ?_
  refine lv_bipush (v := 40) hx hb dX4_put_4 (by decide) ?_
  refine lv_icmp_ge (tgt := 29) hx hb dX4_put_6 (by decide) (fun c1 => ?_) (fun c1 => ?_)
  · rw [if_pos c1] at hf
    have hj0 := Option.some.inj hf
    obtain ⟨ha0, hj1⟩ := Prod.mk.inj hj0
    subst ha0
    subst hj1
    exact hret _ _ _ _ dX4_put_29 hP hD hS
  · rw [if_neg c1] at hf
    refine lv_aload_n hx hb dX4_put_9 rfl (lv_at hl 0 rfl) ?_
    refine gf_RX4_15 C hP 0 rfl rfl dX4_put_10 ?_
    refine lv_aload_n hx hb dX4_put_13 rfl (lv_at hl 0 rfl) ?_
    refine gf_RX4_30 C hP 0 rfl rfl dX4_put_14 ?_
    refine lv_iload_n hx hb dX4_put_17 rfl (lv_at hl 1 rfl) ?_
    obtain ⟨g2, hf⟩ := gd_some hf
    refine va_iast hx hb C.2.2.2.2.2.1 hP hD hS 1 0 rfl rfl (vin_in g2) dX4_put_18 (fun H locs hP hD hS => ?_)
    have hP : va_P E.1 classes (WX4_put E q0 q0_code q0_draft q0_stack q0_things i_length i_drafted ((upd a_draft (i_drafted : Int32).toNatClampNeg p1))) H := hP
    have hD : va_D A (WX4_put E q0 q0_code q0_draft q0_stack q0_things i_length i_drafted ((upd a_draft (i_drafted : Int32).toNatClampNeg p1))) := hD
    refine lv_aload_n hx hb dX4_put_19 rfl (lv_at hl 0 rfl) ?_
    refine lv_dup hx hb dX4_put_20 rfl ?_
    refine gf_RX4_30 C hP 0 rfl rfl dX4_put_21 ?_
    refine lv_iconst (v := 1) hx hb dX4_put_24 (by decide) ?_
    refine lv_iadd hx hb dX4_put_25 ?_
    refine pf_RX4_30 C hP hD hS 0 rfl (Nat.le_of_ble_eq_true rfl) dX4_put_26 (fun H locs hP hD hS => ?_)
    have hP : va_P E.1 classes (WX4_put E q0 q0_code q0_draft q0_stack q0_things i_length ((i_drafted + 1)) ((upd a_draft (i_drafted : Int32).toNatClampNeg p1))) H := hP
    have hD : va_D A (WX4_put E q0 q0_code q0_draft q0_stack q0_things i_length ((i_drafted + 1)) ((upd a_draft (i_drafted : Int32).toNatClampNeg p1))) := hD
    have hj0 := Option.some.inj hf
    obtain ⟨ha0, hj1⟩ := Prod.mk.inj hj0
    subst ha0
    subst hj1
    exact hret _ _ _ _ dX4_put_29 hP hD hS
theorem dX5_sumOf_0 : decode cX5_sumOf 0 = .ok (.iconst 0, 1) := by decide +kernel
theorem dX5_sumOf_1 : decode cX5_sumOf 1 = .ok (.istore_n 1, 1) := by decide +kernel
theorem dX5_sumOf_2 : decode cX5_sumOf 2 = .ok (.aload_n 0, 1) := by decide +kernel
theorem dX5_sumOf_3 : decode cX5_sumOf 3 = .ok (.astore_n 2, 1) := by decide +kernel
theorem dX5_sumOf_4 : decode cX5_sumOf 4 = .ok (.aload_n 2, 1) := by decide +kernel
theorem dX5_sumOf_5 : decode cX5_sumOf 5 = .ok (.arraylength, 1) := by decide +kernel
theorem dX5_sumOf_6 : decode cX5_sumOf 6 = .ok (.istore_n 3, 1) := by decide +kernel
theorem dX5_sumOf_7 : decode cX5_sumOf 7 = .ok (.iconst 0, 1) := by decide +kernel
theorem dX5_sumOf_8 : decode cX5_sumOf 8 = .ok (.istore 4, 2) := by decide +kernel
theorem dX5_sumOf_10 : decode cX5_sumOf 10 = .ok (.iload 4, 2) := by decide +kernel
theorem dX5_sumOf_12 : decode cX5_sumOf 12 = .ok (.iload_n 3, 1) := by decide +kernel
theorem dX5_sumOf_13 : decode cX5_sumOf 13 = .ok (.if_icmp .ge 20, 3) := by decide +kernel
theorem dX5_sumOf_16 : decode cX5_sumOf 16 = .ok (.aload_n 2, 1) := by decide +kernel
theorem dX5_sumOf_17 : decode cX5_sumOf 17 = .ok (.iload 4, 2) := by decide +kernel
theorem dX5_sumOf_19 : decode cX5_sumOf 19 = .ok (.iaload, 1) := by decide +kernel
theorem dX5_sumOf_20 : decode cX5_sumOf 20 = .ok (.istore 5, 2) := by decide +kernel
theorem dX5_sumOf_22 : decode cX5_sumOf 22 = .ok (.iload_n 1, 1) := by decide +kernel
theorem dX5_sumOf_23 : decode cX5_sumOf 23 = .ok (.iload 5, 2) := by decide +kernel
theorem dX5_sumOf_25 : decode cX5_sumOf 25 = .ok (.iadd, 1) := by decide +kernel
theorem dX5_sumOf_26 : decode cX5_sumOf 26 = .ok (.istore_n 1, 1) := by decide +kernel
theorem dX5_sumOf_27 : decode cX5_sumOf 27 = .ok (.iinc 4 1, 3) := by decide +kernel
theorem dX5_sumOf_30 : decode cX5_sumOf 30 = .ok (.goto (-20), 3) := by decide +kernel
theorem dX5_sumOf_33 : decode cX5_sumOf 33 = .ok (.iload_n 1, 1) := by decide +kernel
theorem dX5_sumOf_34 : decode cX5_sumOf 34 = .ok (.ireturn, 1) := by decide +kernel
def WX5_sumOf (E : ENV) (q0 : Nat) (n_ : Nat) (a_ : Nat → Int32) : va_W := [(q0, .inl (E.2.1, n_, .inl a_))]
set_option maxHeartbeats 4000000 in
set_option maxRecDepth 20000 in
theorem kX5_sumOf (l : Launch) (E : ENV) (q0 : Nat) (n_ : Nat) (a_ : Nat → Int32) (r9 : Int32) (hf : fX5_sumOf n_ a_ = some r9) : CI l E yX5_sumOf cX5_sumOf 6 (some .int) 0 [.ref q0] (WX5_sumOf E q0 n_ a_) (WX5_sumOf E q0 n_ a_) r9 := by
  refine begI (by decide +kernel) (Nat.le_of_ble_eq_true rfl) ?_
  intro p e s m args below meth c A Q C hA hret
  have hx := C.1
  have hb := C.2.1
  have L10 : ∀ (v3 : Int32), ∀ (n : Nat) (v1 : Int32) (v4 : Int32) (o : Int32), fX5_sumOf_L10 n_ a_ v3 n v1 v4 = some o → (GO p l e 0 s m args below meth c Q E A 6 33 [] [(1, .int o)] (WX5_sumOf E q0 n_ a_)) → GO p l e 0 s m args below meth c Q E A 6 10 [] [(1, .int v1), (2, .ref q0), (3, .int v3), (4, .int v4)] (WX5_sumOf E q0 n_ a_) := by
    intro v3
    intro n
    induction n with
    | zero =>
      intro v1 v4 o hf
      have hf : none = some o := hf
      cases hf
    | succ n ih =>
      intro v1 v4 o hf hE
      intro H locs ls hl hP hD hS
      rw [fX5_sumOf_L10] at hf
      refine lv_iload hx hb dX5_sumOf_10 (lv_at hl 3 rfl) ?_
      refine lv_iload_n hx hb dX5_sumOf_12 rfl (lv_at hl 2 rfl) ?_
      refine lv_icmp_ge (tgt := 33) hx hb dX5_sumOf_13 (by decide) (fun c1 => ?_) (fun c1 => ?_)
      · rw [if_pos c1] at hf
        have hf := Option.some.inj hf
        subst hf
        exact hE _ _ _ (lv_sub hl [0] rfl) hP hD hS
      · rw [if_neg c1] at hf
        refine lv_aload_n hx hb dX5_sumOf_16 rfl (lv_at hl 1 rfl) ?_
        refine lv_iload hx hb dX5_sumOf_17 (lv_at hl 3 rfl) ?_
        obtain ⟨g2, hf⟩ := gd_some hf
        refine va_iald hx hb C.2.2.2.2.2.1 hP 0 0 rfl rfl (vin_in g2) dX5_sumOf_19 ?_
        refine lv_istore (lv' := [(5, .int ((a_ (v4 : Int32).toNatClampNeg))), (1, .int v1), (2, .ref q0), (3, .int v3), (4, .int v4)]) hx hb dX5_sumOf_20 hl (by decide) rfl (fun ls hl => ?_)
        refine lv_iload_n hx hb dX5_sumOf_22 rfl (lv_at hl 1 rfl) ?_
        refine lv_iload hx hb dX5_sumOf_23 (lv_at hl 0 rfl) ?_
        refine lv_iadd hx hb dX5_sumOf_25 ?_
        refine lv_istore_n (lv' := [(1, .int ((v1 + ((a_ (v4 : Int32).toNatClampNeg))))), (5, .int ((a_ (v4 : Int32).toNatClampNeg))), (2, .ref q0), (3, .int v3), (4, .int v4)]) hx hb dX5_sumOf_26 rfl hl (by decide) rfl (fun ls hl => ?_)
        refine lv_iinc (v := (v4 + 1)) (lv' := [(4, .int ((v4 + 1))), (1, .int ((v1 + ((a_ (v4 : Int32).toNatClampNeg))))), (5, .int ((a_ (v4 : Int32).toNatClampNeg))), (2, .ref q0), (3, .int v3)]) hx hb dX5_sumOf_27 hl (k := 4) rfl rfl (by decide) rfl (fun ls hl => ?_)
        refine lv_goto (tgt := 10) hx hb dX5_sumOf_30 (by decide) ?_
        exact ih ((v1 + ((a_ (v4 : Int32).toNatClampNeg)))) ((v4 + 1)) _ hf hE _ _ _ (lv_sub hl [1, 3, 4, 0] rfl) hP hD hS
  intro H locs ls hl hP hD hS
  have hl : lv_has ls 6 [(0, .ref q0)] := hl
  unfold fX5_sumOf at hf
  refine lv_iconst (v := 0) hx hb dX5_sumOf_0 (by decide) ?_
  refine lv_istore_n (lv' := [(1, .int 0), (0, .ref q0)]) hx hb dX5_sumOf_1 rfl hl (by decide) rfl (fun ls hl => ?_)
  refine lv_aload_n hx hb dX5_sumOf_2 rfl (lv_at hl 1 rfl) ?_
  refine lv_astore_n (lv' := [(2, .ref q0), (1, .int 0), (0, .ref q0)]) hx hb dX5_sumOf_3 rfl hl (by decide) rfl (fun ls hl => ?_)
  refine lv_aload_n hx hb dX5_sumOf_4 rfl (lv_at hl 0 rfl) ?_
  refine va_alen hx hb C.2.2.2.2.2.1 hP 0 0 rfl rfl (v := (Int32.ofNat n_)) rfl dX5_sumOf_5 ?_
  refine lv_istore_n (lv' := [(3, .int ((Int32.ofNat n_))), (2, .ref q0), (1, .int 0), (0, .ref q0)]) hx hb dX5_sumOf_6 rfl hl (by decide) rfl (fun ls hl => ?_)
  refine lv_iconst (v := 0) hx hb dX5_sumOf_7 (by decide) ?_
  refine lv_istore (lv' := [(4, .int 0), (3, .int ((Int32.ofNat n_))), (2, .ref q0), (1, .int 0), (0, .ref q0)]) hx hb dX5_sumOf_8 hl (by decide) rfl (fun ls hl => ?_)
  obtain ⟨o3, hg4, hf⟩ := bd_some hf
  refine L10 ((Int32.ofNat n_)) FU 0 0 o3 hg4 ?_ _ _ _ (lv_sub hl [3, 2, 1, 0] rfl) hP hD hS
  intro H locs ls hl hP hD hS
  refine lv_iload_n hx hb dX5_sumOf_33 rfl (lv_at hl 0 rfl) ?_
  have hj0 := Option.some.inj hf
  subst hj0
  exact hret _ _ _ _ dX5_sumOf_34 rfl hP hD hS
theorem K_RX5_31 : KS RX5 31 yX5_sumOf cX5_sumOf 6 (some .int) 1 := ⟨Tg_mem 823 (by decide +kernel) (by decide +kernel), Tg_mem 97 (by decide +kernel) (by decide +kernel), Tg_mem 821 (by decide +kernel) (by decide +kernel), Tg_mem 822 (by decide +kernel) (by decide +kernel), by decide +kernel⟩
theorem dX5_onRoofs_0 : decode cX5_onRoofs 0 = .ok (.aload_n 0, 1) := by decide +kernel
theorem dX5_onRoofs_1 : decode cX5_onRoofs 1 = .ok (.getfield 9, 3) := by decide +kernel
theorem dX5_onRoofs_4 : decode cX5_onRoofs 4 = .ok (.invokestatic 31, 3) := by decide +kernel
theorem dX5_onRoofs_7 : decode cX5_onRoofs 7 = .ok (.ireturn, 1) := by decide +kernel
def WX5_onRoofs (E : ENV) (q0 : Nat) (q0_snow : Nat) (q0_path : Nat) (q0_debt : Nat) (i_now : Int32) (a_snow : Nat → Int32) : va_W := [(q0, .inr (5, [.ref q0_snow, .ref q0_path, .ref q0_debt, .int i_now])), (q0_snow, .inl (E.2.1, 14, .inl a_snow))]
set_option maxHeartbeats 4000000 in
set_option maxRecDepth 20000 in
theorem kX5_onRoofs (l : Launch) (E : ENV) (q0 : Nat) (q0_snow : Nat) (q0_path : Nat) (q0_debt : Nat) (i_now : Int32) (a_snow : Nat → Int32) (r9 : Int32) (hf : fX5_onRoofs a_snow = some r9) : CI l E yX5_onRoofs cX5_onRoofs 1 (some .int) 1 [.ref q0] (WX5_onRoofs E q0 q0_snow q0_path q0_debt i_now a_snow) (WX5_onRoofs E q0 q0_snow q0_path q0_debt i_now a_snow) r9 := by
  refine begI (by decide +kernel) (Nat.le_of_ble_eq_true rfl) ?_
  intro p e s m args below meth c A Q C hA hret
  have hx := C.1
  have hb := C.2.1
  intro H locs ls hl hP hD hS
  have hl : lv_has ls 1 [(0, .ref q0)] := hl
  unfold fX5_onRoofs at hf
  refine lv_aload_n hx hb dX5_onRoofs_0 rfl (lv_at hl 0 rfl) ?_
  refine gf_RX5_9 C hP 0 rfl rfl dX5_onRoofs_1 ?_
  obtain ⟨o1, hg2, hf⟩ := bd_some hf
  refine k_SI (As := [.ref q0_snow]) C K_RX5_31 (Nat.le_of_ble_eq_true rfl) (Nat.le_of_ble_eq_true rfl) (kX5_sumOf l E q0_snow 14 a_snow o1 hg2) [1] rfl rfl rfl  hP hD hS hA hl.1 (Nat.le_of_ble_eq_true rfl) rfl dX5_onRoofs_4 (fun H locs hP hD hS => ?_)
  have hP : va_P E.1 classes (WX5_onRoofs E q0 q0_snow q0_path q0_debt i_now a_snow) H := hP
  have hD : va_D A (WX5_onRoofs E q0 q0_snow q0_path q0_debt i_now a_snow) := hD
  have hj0 := Option.some.inj hf
  subst hj0
  exact hret _ _ _ _ dX5_onRoofs_7 rfl hP hD hS
theorem dX5_onPaths_0 : decode cX5_onPaths 0 = .ok (.aload_n 0, 1) := by decide +kernel
theorem dX5_onPaths_1 : decode cX5_onPaths 1 = .ok (.getfield 15, 3) := by decide +kernel
theorem dX5_onPaths_4 : decode cX5_onPaths 4 = .ok (.invokestatic 31, 3) := by decide +kernel
theorem dX5_onPaths_7 : decode cX5_onPaths 7 = .ok (.ireturn, 1) := by decide +kernel
def WX5_onPaths (E : ENV) (q0 : Nat) (q0_snow : Nat) (q0_path : Nat) (q0_debt : Nat) (i_now : Int32) (a_path : Nat → Int32) : va_W := [(q0, .inr (5, [.ref q0_snow, .ref q0_path, .ref q0_debt, .int i_now])), (q0_path, .inl (E.2.1, 7, .inl a_path))]
set_option maxHeartbeats 4000000 in
set_option maxRecDepth 20000 in
theorem kX5_onPaths (l : Launch) (E : ENV) (q0 : Nat) (q0_snow : Nat) (q0_path : Nat) (q0_debt : Nat) (i_now : Int32) (a_path : Nat → Int32) (r9 : Int32) (hf : fX5_onPaths a_path = some r9) : CI l E yX5_onPaths cX5_onPaths 1 (some .int) 1 [.ref q0] (WX5_onPaths E q0 q0_snow q0_path q0_debt i_now a_path) (WX5_onPaths E q0 q0_snow q0_path q0_debt i_now a_path) r9 := by
  refine begI (by decide +kernel) (Nat.le_of_ble_eq_true rfl) ?_
  intro p e s m args below meth c A Q C hA hret
  have hx := C.1
  have hb := C.2.1
  intro H locs ls hl hP hD hS
  have hl : lv_has ls 1 [(0, .ref q0)] := hl
  unfold fX5_onPaths at hf
  refine lv_aload_n hx hb dX5_onPaths_0 rfl (lv_at hl 0 rfl) ?_
  refine gf_RX5_15 C hP 0 rfl rfl dX5_onPaths_1 ?_
  obtain ⟨o1, hg2, hf⟩ := bd_some hf
  refine k_SI (As := [.ref q0_path]) C K_RX5_31 (Nat.le_of_ble_eq_true rfl) (Nat.le_of_ble_eq_true rfl) (kX5_sumOf l E q0_path 7 a_path o1 hg2) [1] rfl rfl rfl  hP hD hS hA hl.1 (Nat.le_of_ble_eq_true rfl) rfl dX5_onPaths_4 (fun H locs hP hD hS => ?_)
  have hP : va_P E.1 classes (WX5_onPaths E q0 q0_snow q0_path q0_debt i_now a_path) H := hP
  have hD : va_D A (WX5_onPaths E q0 q0_snow q0_path q0_debt i_now a_path) := hD
  have hj0 := Option.some.inj hf
  subst hj0
  exact hret _ _ _ _ dX5_onPaths_7 rfl hP hD hS
theorem dX5_owedInAll_0 : decode cX5_owedInAll 0 = .ok (.aload_n 0, 1) := by decide +kernel
theorem dX5_owedInAll_1 : decode cX5_owedInAll 1 = .ok (.getfield 18, 3) := by decide +kernel
theorem dX5_owedInAll_4 : decode cX5_owedInAll 4 = .ok (.invokestatic 31, 3) := by decide +kernel
theorem dX5_owedInAll_7 : decode cX5_owedInAll 7 = .ok (.ireturn, 1) := by decide +kernel
def WX5_owedInAll (E : ENV) (q0 : Nat) (q0_snow : Nat) (q0_path : Nat) (q0_debt : Nat) (i_now : Int32) (a_debt : Nat → Int32) : va_W := [(q0, .inr (5, [.ref q0_snow, .ref q0_path, .ref q0_debt, .int i_now])), (q0_debt, .inl (E.2.1, 49, .inl a_debt))]
set_option maxHeartbeats 4000000 in
set_option maxRecDepth 20000 in
theorem kX5_owedInAll (l : Launch) (E : ENV) (q0 : Nat) (q0_snow : Nat) (q0_path : Nat) (q0_debt : Nat) (i_now : Int32) (a_debt : Nat → Int32) (r9 : Int32) (hf : fX5_owedInAll a_debt = some r9) : CI l E yX5_owedInAll cX5_owedInAll 1 (some .int) 1 [.ref q0] (WX5_owedInAll E q0 q0_snow q0_path q0_debt i_now a_debt) (WX5_owedInAll E q0 q0_snow q0_path q0_debt i_now a_debt) r9 := by
  refine begI (by decide +kernel) (Nat.le_of_ble_eq_true rfl) ?_
  intro p e s m args below meth c A Q C hA hret
  have hx := C.1
  have hb := C.2.1
  intro H locs ls hl hP hD hS
  have hl : lv_has ls 1 [(0, .ref q0)] := hl
  unfold fX5_owedInAll at hf
  refine lv_aload_n hx hb dX5_owedInAll_0 rfl (lv_at hl 0 rfl) ?_
  refine gf_RX5_18 C hP 0 rfl rfl dX5_owedInAll_1 ?_
  obtain ⟨o1, hg2, hf⟩ := bd_some hf
  refine k_SI (As := [.ref q0_debt]) C K_RX5_31 (Nat.le_of_ble_eq_true rfl) (Nat.le_of_ble_eq_true rfl) (kX5_sumOf l E q0_debt 49 a_debt o1 hg2) [1] rfl rfl rfl  hP hD hS hA hl.1 (Nat.le_of_ble_eq_true rfl) rfl dX5_owedInAll_4 (fun H locs hP hD hS => ?_)
  have hP : va_P E.1 classes (WX5_owedInAll E q0 q0_snow q0_path q0_debt i_now a_debt) H := hP
  have hD : va_D A (WX5_owedInAll E q0 q0_snow q0_path q0_debt i_now a_debt) := hD
  have hj0 := Option.some.inj hf
  subst hj0
  exact hret _ _ _ _ dX5_owedInAll_7 rfl hP hD hS
theorem dX5_owedBy_0 : decode cX5_owedBy 0 = .ok (.iconst 0, 1) := by decide +kernel
theorem dX5_owedBy_1 : decode cX5_owedBy 1 = .ok (.istore_n 2, 1) := by decide +kernel
theorem dX5_owedBy_2 : decode cX5_owedBy 2 = .ok (.iconst 0, 1) := by decide +kernel
theorem dX5_owedBy_3 : decode cX5_owedBy 3 = .ok (.istore_n 3, 1) := by decide +kernel
theorem dX5_owedBy_4 : decode cX5_owedBy 4 = .ok (.iload_n 3, 1) := by decide +kernel
theorem dX5_owedBy_5 : decode cX5_owedBy 5 = .ok (.bipush 7, 2) := by decide +kernel
theorem dX5_owedBy_7 : decode cX5_owedBy 7 = .ok (.if_icmp .ge 23, 3) := by decide +kernel
theorem dX5_owedBy_10 : decode cX5_owedBy 10 = .ok (.iload_n 2, 1) := by decide +kernel
theorem dX5_owedBy_11 : decode cX5_owedBy 11 = .ok (.aload_n 0, 1) := by decide +kernel
theorem dX5_owedBy_12 : decode cX5_owedBy 12 = .ok (.getfield 18, 3) := by decide +kernel
theorem dX5_owedBy_15 : decode cX5_owedBy 15 = .ok (.iload_n 1, 1) := by decide +kernel
theorem dX5_owedBy_16 : decode cX5_owedBy 16 = .ok (.bipush 7, 2) := by decide +kernel
theorem dX5_owedBy_18 : decode cX5_owedBy 18 = .ok (.imul, 1) := by decide +kernel
theorem dX5_owedBy_19 : decode cX5_owedBy 19 = .ok (.iload_n 3, 1) := by decide +kernel
theorem dX5_owedBy_20 : decode cX5_owedBy 20 = .ok (.iadd, 1) := by decide +kernel
theorem dX5_owedBy_21 : decode cX5_owedBy 21 = .ok (.iaload, 1) := by decide +kernel
theorem dX5_owedBy_22 : decode cX5_owedBy 22 = .ok (.iadd, 1) := by decide +kernel
theorem dX5_owedBy_23 : decode cX5_owedBy 23 = .ok (.istore_n 2, 1) := by decide +kernel
theorem dX5_owedBy_24 : decode cX5_owedBy 24 = .ok (.iinc 3 1, 3) := by decide +kernel
theorem dX5_owedBy_27 : decode cX5_owedBy 27 = .ok (.goto (-23), 3) := by decide +kernel
theorem dX5_owedBy_30 : decode cX5_owedBy 30 = .ok (.iload_n 2, 1) := by decide +kernel
theorem dX5_owedBy_31 : decode cX5_owedBy 31 = .ok (.ireturn, 1) := by decide +kernel
def WX5_owedBy (E : ENV) (q0 : Nat) (q0_snow : Nat) (q0_path : Nat) (q0_debt : Nat) (i_now : Int32) (a_debt : Nat → Int32) : va_W := [(q0, .inr (5, [.ref q0_snow, .ref q0_path, .ref q0_debt, .int i_now])), (q0_debt, .inl (E.2.1, 49, .inl a_debt))]
set_option maxHeartbeats 4000000 in
set_option maxRecDepth 20000 in
theorem kX5_owedBy (l : Launch) (E : ENV) (q0 : Nat) (q0_snow : Nat) (q0_path : Nat) (q0_debt : Nat) (i_now : Int32) (a_debt : Nat → Int32) (p1 : Int32) (r9 : Int32) (hf : fX5_owedBy a_debt p1 = some r9) : CI l E yX5_owedBy cX5_owedBy 4 (some .int) 0 [.ref q0, .int p1] (WX5_owedBy E q0 q0_snow q0_path q0_debt i_now a_debt) (WX5_owedBy E q0 q0_snow q0_path q0_debt i_now a_debt) r9 := by
  refine begI (by decide +kernel) (Nat.le_of_ble_eq_true rfl) ?_
  intro p e s m args below meth c A Q C hA hret
  have hx := C.1
  have hb := C.2.1
  have L4 : ∀ (n : Nat) (v2 : Int32) (v3 : Int32) (o : Int32), fX5_owedBy_L4 a_debt p1 n v2 v3 = some o → (GO p l e 0 s m args below meth c Q E A 4 30 [] [(2, .int o)] (WX5_owedBy E q0 q0_snow q0_path q0_debt i_now a_debt)) → GO p l e 0 s m args below meth c Q E A 4 4 [] [(0, .ref q0), (1, .int p1), (2, .int v2), (3, .int v3)] (WX5_owedBy E q0 q0_snow q0_path q0_debt i_now a_debt) := by
    intro n
    induction n with
    | zero =>
      intro v2 v3 o hf
      have hf : none = some o := hf
      cases hf
    | succ n ih =>
      intro v2 v3 o hf hE
      intro H locs ls hl hP hD hS
      rw [fX5_owedBy_L4] at hf
      refine lv_iload_n hx hb dX5_owedBy_4 rfl (lv_at hl 3 rfl) ?_
      refine lv_bipush (v := 7) hx hb dX5_owedBy_5 (by decide) ?_
      refine lv_icmp_ge (tgt := 30) hx hb dX5_owedBy_7 (by decide) (fun c1 => ?_) (fun c1 => ?_)
      · rw [if_pos c1] at hf
        have hf := Option.some.inj hf
        subst hf
        exact hE _ _ _ (lv_sub hl [2] rfl) hP hD hS
      · rw [if_neg c1] at hf
        refine lv_iload_n hx hb dX5_owedBy_10 rfl (lv_at hl 2 rfl) ?_
        refine lv_aload_n hx hb dX5_owedBy_11 rfl (lv_at hl 0 rfl) ?_
        refine gf_RX5_18 C hP 0 rfl rfl dX5_owedBy_12 ?_
        refine lv_iload_n hx hb dX5_owedBy_15 rfl (lv_at hl 1 rfl) ?_
        refine lv_bipush (v := 7) hx hb dX5_owedBy_16 (by decide) ?_
        refine lv_imul hx hb dX5_owedBy_18 ?_
        refine lv_iload_n hx hb dX5_owedBy_19 rfl (lv_at hl 3 rfl) ?_
        refine lv_iadd hx hb dX5_owedBy_20 ?_
        obtain ⟨g2, hf⟩ := gd_some hf
        refine va_iald hx hb C.2.2.2.2.2.1 hP 1 0 rfl rfl (vin_in g2) dX5_owedBy_21 ?_
        refine lv_iadd hx hb dX5_owedBy_22 ?_
        refine lv_istore_n (lv' := [(2, .int ((v2 + ((a_debt ((((p1 * 7)) + v3) : Int32).toNatClampNeg))))), (0, .ref q0), (1, .int p1), (3, .int v3)]) hx hb dX5_owedBy_23 rfl hl (by decide) rfl (fun ls hl => ?_)
        refine lv_iinc (v := (v3 + 1)) (lv' := [(3, .int ((v3 + 1))), (2, .int ((v2 + ((a_debt ((((p1 * 7)) + v3) : Int32).toNatClampNeg))))), (0, .ref q0), (1, .int p1)]) hx hb dX5_owedBy_24 hl (k := 3) rfl rfl (by decide) rfl (fun ls hl => ?_)
        refine lv_goto (tgt := 4) hx hb dX5_owedBy_27 (by decide) ?_
        exact ih ((v2 + ((a_debt ((((p1 * 7)) + v3) : Int32).toNatClampNeg)))) ((v3 + 1)) _ hf hE _ _ _ (lv_sub hl [2, 3, 1, 0] rfl) hP hD hS
  intro H locs ls hl hP hD hS
  have hl : lv_has ls 4 [(0, .ref q0), (1, .int p1)] := hl
  unfold fX5_owedBy at hf
  refine lv_iconst (v := 0) hx hb dX5_owedBy_0 (by decide) ?_
  refine lv_istore_n (lv' := [(2, .int 0), (0, .ref q0), (1, .int p1)]) hx hb dX5_owedBy_1 rfl hl (by decide) rfl (fun ls hl => ?_)
  refine lv_iconst (v := 0) hx hb dX5_owedBy_2 (by decide) ?_
  refine lv_istore_n (lv' := [(3, .int 0), (2, .int 0), (0, .ref q0), (1, .int p1)]) hx hb dX5_owedBy_3 rfl hl (by decide) rfl (fun ls hl => ?_)
  obtain ⟨o3, hg4, hf⟩ := bd_some hf
  refine L4 FU 0 0 o3 hg4 ?_ _ _ _ (lv_sub hl [2, 3, 1, 0] rfl) hP hD hS
  intro H locs ls hl hP hD hS
  refine lv_iload_n hx hb dX5_owedBy_30 rfl (lv_at hl 0 rfl) ?_
  have hj0 := Option.some.inj hf
  subst hj0
  exact hret _ _ _ _ dX5_owedBy_31 rfl hP hD hS
theorem dX5_owedTo_0 : decode cX5_owedTo 0 = .ok (.iconst 0, 1) := by decide +kernel
theorem dX5_owedTo_1 : decode cX5_owedTo 1 = .ok (.istore_n 2, 1) := by decide +kernel
theorem dX5_owedTo_2 : decode cX5_owedTo 2 = .ok (.iconst 0, 1) := by decide +kernel
theorem dX5_owedTo_3 : decode cX5_owedTo 3 = .ok (.istore_n 3, 1) := by decide +kernel
theorem dX5_owedTo_4 : decode cX5_owedTo 4 = .ok (.iload_n 3, 1) := by decide +kernel
theorem dX5_owedTo_5 : decode cX5_owedTo 5 = .ok (.bipush 7, 2) := by decide +kernel
theorem dX5_owedTo_7 : decode cX5_owedTo 7 = .ok (.if_icmp .ge 23, 3) := by decide +kernel
theorem dX5_owedTo_10 : decode cX5_owedTo 10 = .ok (.iload_n 2, 1) := by decide +kernel
theorem dX5_owedTo_11 : decode cX5_owedTo 11 = .ok (.aload_n 0, 1) := by decide +kernel
theorem dX5_owedTo_12 : decode cX5_owedTo 12 = .ok (.getfield 18, 3) := by decide +kernel
theorem dX5_owedTo_15 : decode cX5_owedTo 15 = .ok (.iload_n 3, 1) := by decide +kernel
theorem dX5_owedTo_16 : decode cX5_owedTo 16 = .ok (.bipush 7, 2) := by decide +kernel
theorem dX5_owedTo_18 : decode cX5_owedTo 18 = .ok (.imul, 1) := by decide +kernel
theorem dX5_owedTo_19 : decode cX5_owedTo 19 = .ok (.iload_n 1, 1) := by decide +kernel
theorem dX5_owedTo_20 : decode cX5_owedTo 20 = .ok (.iadd, 1) := by decide +kernel
theorem dX5_owedTo_21 : decode cX5_owedTo 21 = .ok (.iaload, 1) := by decide +kernel
theorem dX5_owedTo_22 : decode cX5_owedTo 22 = .ok (.iadd, 1) := by decide +kernel
theorem dX5_owedTo_23 : decode cX5_owedTo 23 = .ok (.istore_n 2, 1) := by decide +kernel
theorem dX5_owedTo_24 : decode cX5_owedTo 24 = .ok (.iinc 3 1, 3) := by decide +kernel
theorem dX5_owedTo_27 : decode cX5_owedTo 27 = .ok (.goto (-23), 3) := by decide +kernel
theorem dX5_owedTo_30 : decode cX5_owedTo 30 = .ok (.iload_n 2, 1) := by decide +kernel
theorem dX5_owedTo_31 : decode cX5_owedTo 31 = .ok (.ireturn, 1) := by decide +kernel
def WX5_owedTo (E : ENV) (q0 : Nat) (q0_snow : Nat) (q0_path : Nat) (q0_debt : Nat) (i_now : Int32) (a_debt : Nat → Int32) : va_W := [(q0, .inr (5, [.ref q0_snow, .ref q0_path, .ref q0_debt, .int i_now])), (q0_debt, .inl (E.2.1, 49, .inl a_debt))]
set_option maxHeartbeats 4000000 in
set_option maxRecDepth 20000 in
theorem kX5_owedTo (l : Launch) (E : ENV) (q0 : Nat) (q0_snow : Nat) (q0_path : Nat) (q0_debt : Nat) (i_now : Int32) (a_debt : Nat → Int32) (p1 : Int32) (r9 : Int32) (hf : fX5_owedTo a_debt p1 = some r9) : CI l E yX5_owedTo cX5_owedTo 4 (some .int) 0 [.ref q0, .int p1] (WX5_owedTo E q0 q0_snow q0_path q0_debt i_now a_debt) (WX5_owedTo E q0 q0_snow q0_path q0_debt i_now a_debt) r9 := by
  refine begI (by decide +kernel) (Nat.le_of_ble_eq_true rfl) ?_
  intro p e s m args below meth c A Q C hA hret
  have hx := C.1
  have hb := C.2.1
  have L4 : ∀ (n : Nat) (v2 : Int32) (v3 : Int32) (o : Int32), fX5_owedTo_L4 a_debt p1 n v2 v3 = some o → (GO p l e 0 s m args below meth c Q E A 4 30 [] [(2, .int o)] (WX5_owedTo E q0 q0_snow q0_path q0_debt i_now a_debt)) → GO p l e 0 s m args below meth c Q E A 4 4 [] [(0, .ref q0), (1, .int p1), (2, .int v2), (3, .int v3)] (WX5_owedTo E q0 q0_snow q0_path q0_debt i_now a_debt) := by
    intro n
    induction n with
    | zero =>
      intro v2 v3 o hf
      have hf : none = some o := hf
      cases hf
    | succ n ih =>
      intro v2 v3 o hf hE
      intro H locs ls hl hP hD hS
      rw [fX5_owedTo_L4] at hf
      refine lv_iload_n hx hb dX5_owedTo_4 rfl (lv_at hl 3 rfl) ?_
      refine lv_bipush (v := 7) hx hb dX5_owedTo_5 (by decide) ?_
      refine lv_icmp_ge (tgt := 30) hx hb dX5_owedTo_7 (by decide) (fun c1 => ?_) (fun c1 => ?_)
      · rw [if_pos c1] at hf
        have hf := Option.some.inj hf
        subst hf
        exact hE _ _ _ (lv_sub hl [2] rfl) hP hD hS
      · rw [if_neg c1] at hf
        refine lv_iload_n hx hb dX5_owedTo_10 rfl (lv_at hl 2 rfl) ?_
        refine lv_aload_n hx hb dX5_owedTo_11 rfl (lv_at hl 0 rfl) ?_
        refine gf_RX5_18 C hP 0 rfl rfl dX5_owedTo_12 ?_
        refine lv_iload_n hx hb dX5_owedTo_15 rfl (lv_at hl 3 rfl) ?_
        refine lv_bipush (v := 7) hx hb dX5_owedTo_16 (by decide) ?_
        refine lv_imul hx hb dX5_owedTo_18 ?_
        refine lv_iload_n hx hb dX5_owedTo_19 rfl (lv_at hl 1 rfl) ?_
        refine lv_iadd hx hb dX5_owedTo_20 ?_
        obtain ⟨g2, hf⟩ := gd_some hf
        refine va_iald hx hb C.2.2.2.2.2.1 hP 1 0 rfl rfl (vin_in g2) dX5_owedTo_21 ?_
        refine lv_iadd hx hb dX5_owedTo_22 ?_
        refine lv_istore_n (lv' := [(2, .int ((v2 + ((a_debt ((((v3 * 7)) + p1) : Int32).toNatClampNeg))))), (0, .ref q0), (1, .int p1), (3, .int v3)]) hx hb dX5_owedTo_23 rfl hl (by decide) rfl (fun ls hl => ?_)
        refine lv_iinc (v := (v3 + 1)) (lv' := [(3, .int ((v3 + 1))), (2, .int ((v2 + ((a_debt ((((v3 * 7)) + p1) : Int32).toNatClampNeg))))), (0, .ref q0), (1, .int p1)]) hx hb dX5_owedTo_24 hl (k := 3) rfl rfl (by decide) rfl (fun ls hl => ?_)
        refine lv_goto (tgt := 4) hx hb dX5_owedTo_27 (by decide) ?_
        exact ih ((v2 + ((a_debt ((((v3 * 7)) + p1) : Int32).toNatClampNeg)))) ((v3 + 1)) _ hf hE _ _ _ (lv_sub hl [2, 3, 1, 0] rfl) hP hD hS
  intro H locs ls hl hP hD hS
  have hl : lv_has ls 4 [(0, .ref q0), (1, .int p1)] := hl
  unfold fX5_owedTo at hf
  refine lv_iconst (v := 0) hx hb dX5_owedTo_0 (by decide) ?_
  refine lv_istore_n (lv' := [(2, .int 0), (0, .ref q0), (1, .int p1)]) hx hb dX5_owedTo_1 rfl hl (by decide) rfl (fun ls hl => ?_)
  refine lv_iconst (v := 0) hx hb dX5_owedTo_2 (by decide) ?_
  refine lv_istore_n (lv' := [(3, .int 0), (2, .int 0), (0, .ref q0), (1, .int p1)]) hx hb dX5_owedTo_3 rfl hl (by decide) rfl (fun ls hl => ?_)
  obtain ⟨o3, hg4, hf⟩ := bd_some hf
  refine L4 FU 0 0 o3 hg4 ?_ _ _ _ (lv_sub hl [2, 3, 1, 0] rfl) hP hD hS
  intro H locs ls hl hP hD hS
  refine lv_iload_n hx hb dX5_owedTo_30 rfl (lv_at hl 0 rfl) ?_
  have hj0 := Option.some.inj hf
  subst hj0
  exact hret _ _ _ _ dX5_owedTo_31 rfl hP hD hS
theorem K_RX5_35 : KV RX5 35 yX5_owedTo cX5_owedTo 4 (some .int) 1 := ⟨Tg_mem 972 (by decide +kernel) (by decide +kernel), Tg_mem 97 (by decide +kernel) (by decide +kernel), Tg_mem 969 (by decide +kernel) (by decide +kernel), Tg_mem 970 (by decide +kernel) (by decide +kernel), Tg_mem 971 (by decide +kernel) (by decide +kernel), by decide +kernel⟩
theorem K_RX5_39 : KV RX5 39 yX5_owedBy cX5_owedBy 4 (some .int) 1 := ⟨Tg_mem 976 (by decide +kernel) (by decide +kernel), Tg_mem 97 (by decide +kernel) (by decide +kernel), Tg_mem 973 (by decide +kernel) (by decide +kernel), Tg_mem 974 (by decide +kernel) (by decide +kernel), Tg_mem 975 (by decide +kernel) (by decide +kernel), by decide +kernel⟩
theorem dX5_balance_0 : decode cX5_balance 0 = .ok (.aload_n 0, 1) := by decide +kernel
theorem dX5_balance_1 : decode cX5_balance 1 = .ok (.iload_n 1, 1) := by decide +kernel
theorem dX5_balance_2 : decode cX5_balance 2 = .ok (.invokevirtual 35, 3) := by decide +kernel
theorem dX5_balance_5 : decode cX5_balance 5 = .ok (.aload_n 0, 1) := by decide +kernel
theorem dX5_balance_6 : decode cX5_balance 6 = .ok (.iload_n 1, 1) := by decide +kernel
theorem dX5_balance_7 : decode cX5_balance 7 = .ok (.invokevirtual 39, 3) := by decide +kernel
theorem dX5_balance_10 : decode cX5_balance 10 = .ok (.isub, 1) := by decide +kernel
theorem dX5_balance_11 : decode cX5_balance 11 = .ok (.ireturn, 1) := by decide +kernel
def WX5_balance (E : ENV) (q0 : Nat) (q0_snow : Nat) (q0_path : Nat) (q0_debt : Nat) (i_now : Int32) (a_debt : Nat → Int32) : va_W := [(q0, .inr (5, [.ref q0_snow, .ref q0_path, .ref q0_debt, .int i_now])), (q0_debt, .inl (E.2.1, 49, .inl a_debt))]
set_option maxHeartbeats 4000000 in
set_option maxRecDepth 20000 in
theorem kX5_balance (l : Launch) (E : ENV) (q0 : Nat) (q0_snow : Nat) (q0_path : Nat) (q0_debt : Nat) (i_now : Int32) (a_debt : Nat → Int32) (p1 : Int32) (r9 : Int32) (hf : fX5_balance a_debt p1 = some r9) : CI l E yX5_balance cX5_balance 2 (some .int) 1 [.ref q0, .int p1] (WX5_balance E q0 q0_snow q0_path q0_debt i_now a_debt) (WX5_balance E q0 q0_snow q0_path q0_debt i_now a_debt) r9 := by
  refine begI (by decide +kernel) (Nat.le_of_ble_eq_true rfl) ?_
  intro p e s m args below meth c A Q C hA hret
  have hx := C.1
  have hb := C.2.1
  intro H locs ls hl hP hD hS
  have hl : lv_has ls 2 [(0, .ref q0), (1, .int p1)] := hl
  unfold fX5_balance at hf
  refine lv_aload_n hx hb dX5_balance_0 rfl (lv_at hl 0 rfl) ?_
  refine lv_iload_n hx hb dX5_balance_1 rfl (lv_at hl 1 rfl) ?_
  obtain ⟨o1, hg2, hf⟩ := bd_some hf
  refine k_VI (As := [.int p1]) C K_RX5_35 (Nat.le_of_ble_eq_true rfl) (Nat.le_of_ble_eq_true rfl) (kX5_owedTo l E q0 q0_snow q0_path q0_debt i_now a_debt p1 o1 hg2) [0, 1] rfl rfl rfl (ci := 5) rfl rfl (q0 := 0) rfl hP hD hS hA hl.1 (Nat.le_of_ble_eq_true rfl) rfl dX5_balance_2 (fun H locs hP hD hS => ?_)
  have hP : va_P E.1 classes (WX5_balance E q0 q0_snow q0_path q0_debt i_now a_debt) H := hP
  have hD : va_D A (WX5_balance E q0 q0_snow q0_path q0_debt i_now a_debt) := hD
  refine lv_aload_n hx hb dX5_balance_5 rfl (lv_at hl 0 rfl) ?_
  refine lv_iload_n hx hb dX5_balance_6 rfl (lv_at hl 1 rfl) ?_
  obtain ⟨o3, hg4, hf⟩ := bd_some hf
  refine k_VI (As := [.int p1]) C K_RX5_39 (Nat.le_of_ble_eq_true rfl) (Nat.le_of_ble_eq_true rfl) (kX5_owedBy l E q0 q0_snow q0_path q0_debt i_now a_debt p1 o3 hg4) [0, 1] rfl rfl rfl (ci := 5) rfl rfl (q0 := 0) rfl hP hD hS hA hl.1 (Nat.le_of_ble_eq_true rfl) rfl dX5_balance_7 (fun H locs hP hD hS => ?_)
  have hP : va_P E.1 classes (WX5_balance E q0 q0_snow q0_path q0_debt i_now a_debt) H := hP
  have hD : va_D A (WX5_balance E q0 q0_snow q0_path q0_debt i_now a_debt) := hD
  refine lv_isub hx hb dX5_balance_10 ?_
  have hj0 := Option.some.inj hf
  subst hj0
  exact hret _ _ _ _ dX5_balance_11 rfl hP hD hS
theorem dX5_creditorsOf_0 : decode cX5_creditorsOf 0 = .ok (.iconst 0, 1) := by decide +kernel
theorem dX5_creditorsOf_1 : decode cX5_creditorsOf 1 = .ok (.istore_n 2, 1) := by decide +kernel
theorem dX5_creditorsOf_2 : decode cX5_creditorsOf 2 = .ok (.iconst 0, 1) := by decide +kernel
theorem dX5_creditorsOf_3 : decode cX5_creditorsOf 3 = .ok (.istore_n 3, 1) := by decide +kernel
theorem dX5_creditorsOf_4 : decode cX5_creditorsOf 4 = .ok (.iload_n 3, 1) := by decide +kernel
theorem dX5_creditorsOf_5 : decode cX5_creditorsOf 5 = .ok (.bipush 7, 2) := by decide +kernel
theorem dX5_creditorsOf_7 : decode cX5_creditorsOf 7 = .ok (.if_icmp .ge 26, 3) := by decide +kernel
theorem dX5_creditorsOf_10 : decode cX5_creditorsOf 10 = .ok (.aload_n 0, 1) := by decide +kernel
theorem dX5_creditorsOf_11 : decode cX5_creditorsOf 11 = .ok (.getfield 18, 3) := by decide +kernel
theorem dX5_creditorsOf_14 : decode cX5_creditorsOf 14 = .ok (.iload_n 1, 1) := by decide +kernel
theorem dX5_creditorsOf_15 : decode cX5_creditorsOf 15 = .ok (.bipush 7, 2) := by decide +kernel
theorem dX5_creditorsOf_17 : decode cX5_creditorsOf 17 = .ok (.imul, 1) := by decide +kernel
theorem dX5_creditorsOf_18 : decode cX5_creditorsOf 18 = .ok (.iload_n 3, 1) := by decide +kernel
theorem dX5_creditorsOf_19 : decode cX5_creditorsOf 19 = .ok (.iadd, 1) := by decide +kernel
theorem dX5_creditorsOf_20 : decode cX5_creditorsOf 20 = .ok (.iaload, 1) := by decide +kernel
theorem dX5_creditorsOf_21 : decode cX5_creditorsOf 21 = .ok (.ifCond .le 6, 3) := by decide +kernel
theorem dX5_creditorsOf_24 : decode cX5_creditorsOf 24 = .ok (.iinc 2 1, 3) := by decide +kernel
theorem dX5_creditorsOf_27 : decode cX5_creditorsOf 27 = .ok (.iinc 3 1, 3) := by decide +kernel
theorem dX5_creditorsOf_30 : decode cX5_creditorsOf 30 = .ok (.goto (-26), 3) := by decide +kernel
theorem dX5_creditorsOf_33 : decode cX5_creditorsOf 33 = .ok (.iload_n 2, 1) := by decide +kernel
theorem dX5_creditorsOf_34 : decode cX5_creditorsOf 34 = .ok (.ireturn, 1) := by decide +kernel
def WX5_creditorsOf (E : ENV) (q0 : Nat) (q0_snow : Nat) (q0_path : Nat) (q0_debt : Nat) (i_now : Int32) (a_debt : Nat → Int32) : va_W := [(q0, .inr (5, [.ref q0_snow, .ref q0_path, .ref q0_debt, .int i_now])), (q0_debt, .inl (E.2.1, 49, .inl a_debt))]
set_option maxHeartbeats 4000000 in
set_option maxRecDepth 20000 in
theorem kX5_creditorsOf (l : Launch) (E : ENV) (q0 : Nat) (q0_snow : Nat) (q0_path : Nat) (q0_debt : Nat) (i_now : Int32) (a_debt : Nat → Int32) (p1 : Int32) (r9 : Int32) (hf : fX5_creditorsOf a_debt p1 = some r9) : CI l E yX5_creditorsOf cX5_creditorsOf 4 (some .int) 0 [.ref q0, .int p1] (WX5_creditorsOf E q0 q0_snow q0_path q0_debt i_now a_debt) (WX5_creditorsOf E q0 q0_snow q0_path q0_debt i_now a_debt) r9 := by
  refine begI (by decide +kernel) (Nat.le_of_ble_eq_true rfl) ?_
  intro p e s m args below meth c A Q C hA hret
  have hx := C.1
  have hb := C.2.1
  have L4 : ∀ (n : Nat) (v2 : Int32) (v3 : Int32) (o : Int32), fX5_creditorsOf_L4 a_debt p1 n v2 v3 = some o → (GO p l e 0 s m args below meth c Q E A 4 33 [] [(2, .int o)] (WX5_creditorsOf E q0 q0_snow q0_path q0_debt i_now a_debt)) → GO p l e 0 s m args below meth c Q E A 4 4 [] [(0, .ref q0), (1, .int p1), (2, .int v2), (3, .int v3)] (WX5_creditorsOf E q0 q0_snow q0_path q0_debt i_now a_debt) := by
    intro n
    induction n with
    | zero =>
      intro v2 v3 o hf
      have hf : none = some o := hf
      cases hf
    | succ n ih =>
      intro v2 v3 o hf hE
      intro H locs ls hl hP hD hS
      rw [fX5_creditorsOf_L4] at hf
      refine lv_iload_n hx hb dX5_creditorsOf_4 rfl (lv_at hl 3 rfl) ?_
      refine lv_bipush (v := 7) hx hb dX5_creditorsOf_5 (by decide) ?_
      refine lv_icmp_ge (tgt := 33) hx hb dX5_creditorsOf_7 (by decide) (fun c1 => ?_) (fun c1 => ?_)
      · rw [if_pos c1] at hf
        have hf := Option.some.inj hf
        subst hf
        exact hE _ _ _ (lv_sub hl [2] rfl) hP hD hS
      · rw [if_neg c1] at hf
        refine lv_aload_n hx hb dX5_creditorsOf_10 rfl (lv_at hl 0 rfl) ?_
        refine gf_RX5_18 C hP 0 rfl rfl dX5_creditorsOf_11 ?_
        refine lv_iload_n hx hb dX5_creditorsOf_14 rfl (lv_at hl 1 rfl) ?_
        refine lv_bipush (v := 7) hx hb dX5_creditorsOf_15 (by decide) ?_
        refine lv_imul hx hb dX5_creditorsOf_17 ?_
        refine lv_iload_n hx hb dX5_creditorsOf_18 rfl (lv_at hl 3 rfl) ?_
        refine lv_iadd hx hb dX5_creditorsOf_19 ?_
        obtain ⟨g2, hf⟩ := gd_some hf
        refine va_iald hx hb C.2.2.2.2.2.1 hP 1 0 rfl rfl (vin_in g2) dX5_creditorsOf_20 ?_
        refine lv_if_le (tgt := 27) hx hb dX5_creditorsOf_21 (by decide) (fun c3 => ?_) (fun c3 => ?_)
        · rw [if_pos c3] at hf
          refine lv_iinc (v := (v3 + 1)) (lv' := [(3, .int ((v3 + 1))), (0, .ref q0), (1, .int p1), (2, .int v2)]) hx hb dX5_creditorsOf_27 hl (k := 3) rfl rfl (by decide) rfl (fun ls hl => ?_)
          refine lv_goto (tgt := 4) hx hb dX5_creditorsOf_30 (by decide) ?_
          exact ih v2 ((v3 + 1)) _ hf hE _ _ _ (lv_sub hl [1, 2, 3, 0] rfl) hP hD hS
        · rw [if_neg c3] at hf
          refine lv_iinc (v := (v2 + 1)) (lv' := [(2, .int ((v2 + 1))), (0, .ref q0), (1, .int p1), (3, .int v3)]) hx hb dX5_creditorsOf_24 hl (k := 2) rfl rfl (by decide) rfl (fun ls hl => ?_)
          refine lv_iinc (v := (v3 + 1)) (lv' := [(3, .int ((v3 + 1))), (2, .int ((v2 + 1))), (0, .ref q0), (1, .int p1)]) hx hb dX5_creditorsOf_27 hl (k := 3) rfl rfl (by decide) rfl (fun ls hl => ?_)
          refine lv_goto (tgt := 4) hx hb dX5_creditorsOf_30 (by decide) ?_
          exact ih ((v2 + 1)) ((v3 + 1)) _ hf hE _ _ _ (lv_sub hl [2, 3, 1, 0] rfl) hP hD hS
  intro H locs ls hl hP hD hS
  have hl : lv_has ls 4 [(0, .ref q0), (1, .int p1)] := hl
  unfold fX5_creditorsOf at hf
  refine lv_iconst (v := 0) hx hb dX5_creditorsOf_0 (by decide) ?_
  refine lv_istore_n (lv' := [(2, .int 0), (0, .ref q0), (1, .int p1)]) hx hb dX5_creditorsOf_1 rfl hl (by decide) rfl (fun ls hl => ?_)
  refine lv_iconst (v := 0) hx hb dX5_creditorsOf_2 (by decide) ?_
  refine lv_istore_n (lv' := [(3, .int 0), (2, .int 0), (0, .ref q0), (1, .int p1)]) hx hb dX5_creditorsOf_3 rfl hl (by decide) rfl (fun ls hl => ?_)
  obtain ⟨o4, hg5, hf⟩ := bd_some hf
  refine L4 FU 0 0 o4 hg5 ?_ _ _ _ (lv_sub hl [2, 3, 1, 0] rfl) hP hD hS
  intro H locs ls hl hP hD hS
  refine lv_iload_n hx hb dX5_creditorsOf_33 rfl (lv_at hl 0 rfl) ?_
  have hj0 := Option.some.inj hf
  subst hj0
  exact hret _ _ _ _ dX5_creditorsOf_34 rfl hP hD hS
theorem K_RX5_51 : KS RX5 51 yJ7_fill_53178 cJ7_fill_53178 4 none 2 := ⟨Tg_mem 727 (by decide +kernel) (by decide +kernel), Tg_mem 114 (by decide +kernel) (by decide +kernel), Tg_mem 989 (by decide +kernel) (by decide +kernel), Tg_mem 726 (by decide +kernel) (by decide +kernel), by decide +kernel⟩
theorem dX5_owesAnew_0 : decode cX5_owesAnew 0 = .ok (.iconst 0, 1) := by decide +kernel
theorem dX5_owesAnew_1 : decode cX5_owesAnew 1 = .ok (.istore_n 2, 1) := by decide +kernel
theorem dX5_owesAnew_2 : decode cX5_owesAnew 2 = .ok (.aload_n 0, 1) := by decide +kernel
theorem dX5_owesAnew_3 : decode cX5_owesAnew 3 = .ok (.getfield 18, 3) := by decide +kernel
theorem dX5_owesAnew_6 : decode cX5_owesAnew 6 = .ok (.iconst 0, 1) := by decide +kernel
theorem dX5_owesAnew_7 : decode cX5_owesAnew 7 = .ok (.invokestatic 51, 3) := by decide +kernel
theorem dX5_owesAnew_10 : decode cX5_owesAnew 10 = .ok (.iconst 0, 1) := by decide +kernel
theorem dX5_owesAnew_11 : decode cX5_owesAnew 11 = .ok (.istore_n 3, 1) := by decide +kernel
theorem dX5_owesAnew_12 : decode cX5_owesAnew 12 = .ok (.iload_n 3, 1) := by decide +kernel
theorem dX5_owesAnew_13 : decode cX5_owesAnew 13 = .ok (.bipush 7, 2) := by decide +kernel
theorem dX5_owesAnew_15 : decode cX5_owesAnew 15 = .ok (.if_icmp .ge 83, 3) := by decide +kernel
theorem dX5_owesAnew_18 : decode cX5_owesAnew 18 = .ok (.iconst 0, 1) := by decide +kernel
theorem dX5_owesAnew_19 : decode cX5_owesAnew 19 = .ok (.istore 4, 2) := by decide +kernel
theorem dX5_owesAnew_21 : decode cX5_owesAnew 21 = .ok (.iload 4, 2) := by decide +kernel
theorem dX5_owesAnew_23 : decode cX5_owesAnew 23 = .ok (.bipush 7, 2) := by decide +kernel
theorem dX5_owesAnew_25 : decode cX5_owesAnew 25 = .ok (.if_icmp .ge 67, 3) := by decide +kernel
theorem dX5_owesAnew_28 : decode cX5_owesAnew 28 = .ok (.sipush 9999, 3) := by decide +kernel
theorem dX5_owesAnew_31 : decode cX5_owesAnew 31 = .ok (.aload_n 1, 1) := by decide +kernel
theorem dX5_owesAnew_32 : decode cX5_owesAnew 32 = .ok (.iload_n 3, 1) := by decide +kernel
theorem dX5_owesAnew_33 : decode cX5_owesAnew 33 = .ok (.iaload, 1) := by decide +kernel
theorem dX5_owesAnew_34 : decode cX5_owesAnew 34 = .ok (.ineg, 1) := by decide +kernel
theorem dX5_owesAnew_35 : decode cX5_owesAnew 35 = .ok (.aload_n 1, 1) := by decide +kernel
theorem dX5_owesAnew_36 : decode cX5_owesAnew 36 = .ok (.iload 4, 2) := by decide +kernel
theorem dX5_owesAnew_38 : decode cX5_owesAnew 38 = .ok (.iaload, 1) := by decide +kernel
theorem dX5_owesAnew_39 : decode cX5_owesAnew 39 = .ok (.invokestatic 42, 3) := by decide +kernel
theorem dX5_owesAnew_42 : decode cX5_owesAnew 42 = .ok (.invokestatic 42, 3) := by decide +kernel
theorem dX5_owesAnew_45 : decode cX5_owesAnew 45 = .ok (.istore 5, 2) := by decide +kernel
theorem dX5_owesAnew_47 : decode cX5_owesAnew 47 = .ok (.iload 5, 2) := by decide +kernel
theorem dX5_owesAnew_49 : decode cX5_owesAnew 49 = .ok (.ifCond .le 37, 3) := by decide +kernel
theorem dX5_owesAnew_52 : decode cX5_owesAnew 52 = .ok (.aload_n 0, 1) := by decide +kernel
theorem dX5_owesAnew_53 : decode cX5_owesAnew 53 = .ok (.getfield 18, 3) := by decide +kernel
theorem dX5_owesAnew_56 : decode cX5_owesAnew 56 = .ok (.iload_n 3, 1) := by decide +kernel
theorem dX5_owesAnew_57 : decode cX5_owesAnew 57 = .ok (.bipush 7, 2) := by decide +kernel
theorem dX5_owesAnew_59 : decode cX5_owesAnew 59 = .ok (.imul, 1) := by decide +kernel
theorem dX5_owesAnew_60 : decode cX5_owesAnew 60 = .ok (.iload 4, 2) := by decide +kernel
theorem dX5_owesAnew_62 : decode cX5_owesAnew 62 = .ok (.iadd, 1) := by decide +kernel
theorem dX5_owesAnew_63 : decode cX5_owesAnew 63 = .ok (.iload 5, 2) := by decide +kernel
theorem dX5_owesAnew_65 : decode cX5_owesAnew 65 = .ok (.iastore, 1) := by decide +kernel
theorem dX5_owesAnew_66 : decode cX5_owesAnew 66 = .ok (.aload_n 1, 1) := by decide +kernel
theorem dX5_owesAnew_67 : decode cX5_owesAnew 67 = .ok (.iload_n 3, 1) := by decide +kernel
theorem dX5_owesAnew_68 : decode cX5_owesAnew 68 = .ok (.dup2, 1) := by decide +kernel
theorem dX5_owesAnew_69 : decode cX5_owesAnew 69 = .ok (.iaload, 1) := by decide +kernel
theorem dX5_owesAnew_70 : decode cX5_owesAnew 70 = .ok (.iload 5, 2) := by decide +kernel
theorem dX5_owesAnew_72 : decode cX5_owesAnew 72 = .ok (.iadd, 1) := by decide +kernel
theorem dX5_owesAnew_73 : decode cX5_owesAnew 73 = .ok (.iastore, 1) := by decide +kernel
theorem dX5_owesAnew_74 : decode cX5_owesAnew 74 = .ok (.aload_n 1, 1) := by decide +kernel
theorem dX5_owesAnew_75 : decode cX5_owesAnew 75 = .ok (.iload 4, 2) := by decide +kernel
theorem dX5_owesAnew_77 : decode cX5_owesAnew 77 = .ok (.dup2, 1) := by decide +kernel
theorem dX5_owesAnew_78 : decode cX5_owesAnew 78 = .ok (.iaload, 1) := by decide +kernel
theorem dX5_owesAnew_79 : decode cX5_owesAnew 79 = .ok (.iload 5, 2) := by decide +kernel
theorem dX5_owesAnew_81 : decode cX5_owesAnew 81 = .ok (.isub, 1) := by decide +kernel
theorem dX5_owesAnew_82 : decode cX5_owesAnew 82 = .ok (.iastore, 1) := by decide +kernel
theorem dX5_owesAnew_83 : decode cX5_owesAnew 83 = .ok (.iinc 2 1, 3) := by decide +kernel
theorem dX5_owesAnew_86 : decode cX5_owesAnew 86 = .ok (.iinc 4 1, 3) := by decide +kernel
theorem dX5_owesAnew_89 : decode cX5_owesAnew 89 = .ok (.goto (-68), 3) := by decide +kernel
theorem dX5_owesAnew_92 : decode cX5_owesAnew 92 = .ok (.iinc 3 1, 3) := by decide +kernel
theorem dX5_owesAnew_95 : decode cX5_owesAnew 95 = .ok (.goto (-83), 3) := by decide +kernel
theorem dX5_owesAnew_98 : decode cX5_owesAnew 98 = .ok (.iload_n 2, 1) := by decide +kernel
theorem dX5_owesAnew_99 : decode cX5_owesAnew 99 = .ok (.ireturn, 1) := by decide +kernel
def WX5_owesAnew (E : ENV) (q0 : Nat) (q0_snow : Nat) (q0_path : Nat) (q0_debt : Nat) (q1 : Nat) (n_p1 : Nat) (i_now : Int32) (a_debt : Nat → Int32) (a_p1 : Nat → Int32) : va_W := [(q0, .inr (5, [.ref q0_snow, .ref q0_path, .ref q0_debt, .int i_now])), (q0_debt, .inl (E.2.1, 49, .inl a_debt)), (q1, .inl (E.2.1, n_p1, .inl a_p1))]
set_option maxHeartbeats 4000000 in
set_option maxRecDepth 20000 in
theorem kX5_owesAnew (l : Launch) (E : ENV) (q0 : Nat) (q0_snow : Nat) (q0_path : Nat) (q0_debt : Nat) (q1 : Nat) (n_p1 : Nat) (i_now : Int32) (a_debt : Nat → Int32) (a_p1 : Nat → Int32) (r9 : Int32) (a_debt9 : Nat → Int32) (a_p19 : Nat → Int32) (hf : fX5_owesAnew n_p1 a_debt a_p1 = some (r9, a_debt9, a_p19)) : CI l E yX5_owesAnew cX5_owesAnew 6 (some .int) 1 [.ref q0, .ref q1] (WX5_owesAnew E q0 q0_snow q0_path q0_debt q1 n_p1 i_now a_debt a_p1) (WX5_owesAnew E q0 q0_snow q0_path q0_debt q1 n_p1 i_now a_debt9 a_p19) r9 := by
  refine begI (by decide +kernel) (Nat.le_of_ble_eq_true rfl) ?_
  intro p e s m args below meth c A Q C hA hret
  have hx := C.1
  have hb := C.2.1
  have L12 : ∀ (n : Nat) (v2 : Int32) (v3 : Int32) (a_debt : Nat → Int32) (a_p1 : Nat → Int32) (o : Int32 × (Nat → Int32) × (Nat → Int32)), fX5_owesAnew_L12 n_p1 n v2 v3 a_debt a_p1 = some o → (GO p l e 1 s m args below meth c Q E A 6 98 [] [(2, .int o.1)] (WX5_owesAnew E q0 q0_snow q0_path q0_debt q1 n_p1 i_now o.2.1 o.2.2)) → GO p l e 1 s m args below meth c Q E A 6 12 [] [(0, .ref q0), (1, .ref q1), (2, .int v2), (3, .int v3)] (WX5_owesAnew E q0 q0_snow q0_path q0_debt q1 n_p1 i_now a_debt a_p1) := by
    intro n
    induction n with
    | zero =>
      intro v2 v3 a_debt a_p1 o hf
      have hf : none = some o := hf
      cases hf
    | succ n ih =>
      intro v2 v3 a_debt a_p1 o hf hE
      have L21 : ∀ (v3 : Int32), ∀ (n : Nat) (v2 : Int32) (v4 : Int32) (a_debt : Nat → Int32) (a_p1 : Nat → Int32) (o : Int32 × (Nat → Int32) × (Nat → Int32)), fX5_owesAnew_L21 n_p1 v3 n v2 v4 a_debt a_p1 = some o → (GO p l e 1 s m args below meth c Q E A 6 92 [] [(0, .ref q0), (1, .ref q1), (2, .int o.1), (3, .int v3)] (WX5_owesAnew E q0 q0_snow q0_path q0_debt q1 n_p1 i_now o.2.1 o.2.2)) → GO p l e 1 s m args below meth c Q E A 6 21 [] [(0, .ref q0), (1, .ref q1), (2, .int v2), (3, .int v3), (4, .int v4)] (WX5_owesAnew E q0 q0_snow q0_path q0_debt q1 n_p1 i_now a_debt a_p1) := by
        intro v3
        intro n
        induction n with
        | zero =>
          intro v2 v4 a_debt a_p1 o hf
          have hf : none = some o := hf
          cases hf
        | succ n ih =>
          intro v2 v4 a_debt a_p1 o hf hE
          intro H locs ls hl hP hD hS
          rw [fX5_owesAnew_L21] at hf
          refine lv_iload hx hb dX5_owesAnew_21 (lv_at hl 4 rfl) ?_
          refine lv_bipush (v := 7) hx hb dX5_owesAnew_23 (by decide) ?_
          refine lv_icmp_ge (tgt := 92) hx hb dX5_owesAnew_25 (by decide) (fun c4 => ?_) (fun c4 => ?_)
          · rw [if_pos c4] at hf
            have hf := Option.some.inj hf
            subst hf
            exact hE _ _ _ (lv_sub hl [0, 1, 2, 3] rfl) hP hD hS
          · rw [if_neg c4] at hf
            refine lv_sipush (v := 9999) hx hb dX5_owesAnew_28 (by decide) ?_
            refine lv_aload_n hx hb dX5_owesAnew_31 rfl (lv_at hl 1 rfl) ?_
            refine lv_iload_n hx hb dX5_owesAnew_32 rfl (lv_at hl 3 rfl) ?_
            obtain ⟨g5, hf⟩ := gd_some hf
            refine va_iald hx hb C.2.2.2.2.2.1 hP 2 0 rfl rfl (vin_in g5) dX5_owesAnew_33 ?_
            refine lv_ineg hx hb dX5_owesAnew_34 ?_
            refine lv_aload_n hx hb dX5_owesAnew_35 rfl (lv_at hl 1 rfl) ?_
            refine lv_iload hx hb dX5_owesAnew_36 (lv_at hl 4 rfl) ?_
            obtain ⟨g6, hf⟩ := gd_some hf
            refine va_iald hx hb C.2.2.2.2.2.1 hP 2 0 rfl rfl (vin_in g6) dX5_owesAnew_38 ?_
            refine r_min C q797 (Nat.le_of_ble_eq_true rfl) hl.1 (Nat.le_of_ble_eq_true rfl) dX5_owesAnew_39 ?_
            refine r_min C q797 (Nat.le_of_ble_eq_true rfl) hl.1 (Nat.le_of_ble_eq_true rfl) dX5_owesAnew_42 ?_
            refine lv_istore (lv' := [(5, .int ((mn 9999 ((mn ((-((a_p1 (v3 : Int32).toNatClampNeg)))) ((a_p1 (v4 : Int32).toNatClampNeg))))))), (0, .ref q0), (1, .ref q1), (2, .int v2), (3, .int v3), (4, .int v4)]) hx hb dX5_owesAnew_45 hl (by decide) rfl (fun ls hl => ?_)
            refine lv_iload hx hb dX5_owesAnew_47 (lv_at hl 0 rfl) ?_
            refine lv_if_le (tgt := 86) hx hb dX5_owesAnew_49 (by decide) (fun c7 => ?_) (fun c7 => ?_)
            · rw [if_pos c7] at hf
              refine lv_iinc (v := (v4 + 1)) (lv' := [(4, .int ((v4 + 1))), (5, .int ((mn 9999 ((mn ((-((a_p1 (v3 : Int32).toNatClampNeg)))) ((a_p1 (v4 : Int32).toNatClampNeg))))))), (0, .ref q0), (1, .ref q1), (2, .int v2), (3, .int v3)]) hx hb dX5_owesAnew_86 hl (k := 5) rfl rfl (by decide) rfl (fun ls hl => ?_)
              refine lv_goto (tgt := 21) hx hb dX5_owesAnew_89 (by decide) ?_
              exact ih v2 ((v4 + 1)) a_debt a_p1 _ hf hE _ _ _ (lv_sub hl [2, 3, 4, 5, 0] rfl) hP hD hS
            · rw [if_neg c7] at hf
              refine lv_aload_n hx hb dX5_owesAnew_52 rfl (lv_at hl 1 rfl) ?_
              refine gf_RX5_18 C hP 0 rfl rfl dX5_owesAnew_53 ?_
              refine lv_iload_n hx hb dX5_owesAnew_56 rfl (lv_at hl 4 rfl) ?_
              refine lv_bipush (v := 7) hx hb dX5_owesAnew_57 (by decide) ?_
              refine lv_imul hx hb dX5_owesAnew_59 ?_
              refine lv_iload hx hb dX5_owesAnew_60 (lv_at hl 5 rfl) ?_
              refine lv_iadd hx hb dX5_owesAnew_62 ?_
              refine lv_iload hx hb dX5_owesAnew_63 (lv_at hl 0 rfl) ?_
              obtain ⟨g8, hf⟩ := gd_some hf
              refine va_iast hx hb C.2.2.2.2.2.1 hP hD hS 1 0 rfl rfl (vin_in g8) dX5_owesAnew_65 (fun H locs hP hD hS => ?_)
              have hP : va_P E.1 classes (WX5_owesAnew E q0 q0_snow q0_path q0_debt q1 n_p1 i_now ((upd a_debt ((((v3 * 7)) + v4) : Int32).toNatClampNeg ((mn 9999 ((mn ((-((a_p1 (v3 : Int32).toNatClampNeg)))) ((a_p1 (v4 : Int32).toNatClampNeg)))))))) a_p1) H := hP
              have hD : va_D A (WX5_owesAnew E q0 q0_snow q0_path q0_debt q1 n_p1 i_now ((upd a_debt ((((v3 * 7)) + v4) : Int32).toNatClampNeg ((mn 9999 ((mn ((-((a_p1 (v3 : Int32).toNatClampNeg)))) ((a_p1 (v4 : Int32).toNatClampNeg)))))))) a_p1) := hD
              refine lv_aload_n hx hb dX5_owesAnew_66 rfl (lv_at hl 2 rfl) ?_
              refine lv_iload_n hx hb dX5_owesAnew_67 rfl (lv_at hl 4 rfl) ?_
              refine lv_dup2_11 hx hb dX5_owesAnew_68 rfl rfl ?_
              obtain ⟨g9, hf⟩ := gd_some hf
              refine va_iald hx hb C.2.2.2.2.2.1 hP 2 0 rfl rfl (vin_in g9) dX5_owesAnew_69 ?_
              refine lv_iload hx hb dX5_owesAnew_70 (lv_at hl 0 rfl) ?_
              refine lv_iadd hx hb dX5_owesAnew_72 ?_
              obtain ⟨g10, hf⟩ := gd_some hf
              refine va_iast hx hb C.2.2.2.2.2.1 hP hD hS 2 0 rfl rfl (vin_in g10) dX5_owesAnew_73 (fun H locs hP hD hS => ?_)
              have hP : va_P E.1 classes (WX5_owesAnew E q0 q0_snow q0_path q0_debt q1 n_p1 i_now ((upd a_debt ((((v3 * 7)) + v4) : Int32).toNatClampNeg ((mn 9999 ((mn ((-((a_p1 (v3 : Int32).toNatClampNeg)))) ((a_p1 (v4 : Int32).toNatClampNeg)))))))) ((upd a_p1 (v3 : Int32).toNatClampNeg ((((a_p1 (v3 : Int32).toNatClampNeg)) + ((mn 9999 ((mn ((-((a_p1 (v3 : Int32).toNatClampNeg)))) ((a_p1 (v4 : Int32).toNatClampNeg))))))))))) H := hP
              have hD : va_D A (WX5_owesAnew E q0 q0_snow q0_path q0_debt q1 n_p1 i_now ((upd a_debt ((((v3 * 7)) + v4) : Int32).toNatClampNeg ((mn 9999 ((mn ((-((a_p1 (v3 : Int32).toNatClampNeg)))) ((a_p1 (v4 : Int32).toNatClampNeg)))))))) ((upd a_p1 (v3 : Int32).toNatClampNeg ((((a_p1 (v3 : Int32).toNatClampNeg)) + ((mn 9999 ((mn ((-((a_p1 (v3 : Int32).toNatClampNeg)))) ((a_p1 (v4 : Int32).toNatClampNeg))))))))))) := hD
              refine lv_aload_n hx hb dX5_owesAnew_74 rfl (lv_at hl 2 rfl) ?_
              refine lv_iload hx hb dX5_owesAnew_75 (lv_at hl 5 rfl) ?_
              refine lv_dup2_11 hx hb dX5_owesAnew_77 rfl rfl ?_
              obtain ⟨g11, hf⟩ := gd_some hf
              refine va_iald hx hb C.2.2.2.2.2.1 hP 2 0 rfl rfl (vin_in g11) dX5_owesAnew_78 ?_
              refine lv_iload hx hb dX5_owesAnew_79 (lv_at hl 0 rfl) ?_
              refine lv_isub hx hb dX5_owesAnew_81 ?_
              obtain ⟨g12, hf⟩ := gd_some hf
              refine va_iast hx hb C.2.2.2.2.2.1 hP hD hS 2 0 rfl rfl (vin_in g12) dX5_owesAnew_82 (fun H locs hP hD hS => ?_)
              have hP : va_P E.1 classes (WX5_owesAnew E q0 q0_snow q0_path q0_debt q1 n_p1 i_now ((upd a_debt ((((v3 * 7)) + v4) : Int32).toNatClampNeg ((mn 9999 ((mn ((-((a_p1 (v3 : Int32).toNatClampNeg)))) ((a_p1 (v4 : Int32).toNatClampNeg)))))))) ((upd ((upd a_p1 (v3 : Int32).toNatClampNeg ((((a_p1 (v3 : Int32).toNatClampNeg)) + ((mn 9999 ((mn ((-((a_p1 (v3 : Int32).toNatClampNeg)))) ((a_p1 (v4 : Int32).toNatClampNeg)))))))))) (v4 : Int32).toNatClampNeg ((((((upd a_p1 (v3 : Int32).toNatClampNeg ((((a_p1 (v3 : Int32).toNatClampNeg)) + ((mn 9999 ((mn ((-((a_p1 (v3 : Int32).toNatClampNeg)))) ((a_p1 (v4 : Int32).toNatClampNeg)))))))))) (v4 : Int32).toNatClampNeg)) - ((mn 9999 ((mn ((-((a_p1 (v3 : Int32).toNatClampNeg)))) ((a_p1 (v4 : Int32).toNatClampNeg))))))))))) H := hP
              have hD : va_D A (WX5_owesAnew E q0 q0_snow q0_path q0_debt q1 n_p1 i_now ((upd a_debt ((((v3 * 7)) + v4) : Int32).toNatClampNeg ((mn 9999 ((mn ((-((a_p1 (v3 : Int32).toNatClampNeg)))) ((a_p1 (v4 : Int32).toNatClampNeg)))))))) ((upd ((upd a_p1 (v3 : Int32).toNatClampNeg ((((a_p1 (v3 : Int32).toNatClampNeg)) + ((mn 9999 ((mn ((-((a_p1 (v3 : Int32).toNatClampNeg)))) ((a_p1 (v4 : Int32).toNatClampNeg)))))))))) (v4 : Int32).toNatClampNeg ((((((upd a_p1 (v3 : Int32).toNatClampNeg ((((a_p1 (v3 : Int32).toNatClampNeg)) + ((mn 9999 ((mn ((-((a_p1 (v3 : Int32).toNatClampNeg)))) ((a_p1 (v4 : Int32).toNatClampNeg)))))))))) (v4 : Int32).toNatClampNeg)) - ((mn 9999 ((mn ((-((a_p1 (v3 : Int32).toNatClampNeg)))) ((a_p1 (v4 : Int32).toNatClampNeg))))))))))) := hD
              refine lv_iinc (v := (v2 + 1)) (lv' := [(2, .int ((v2 + 1))), (5, .int ((mn 9999 ((mn ((-((a_p1 (v3 : Int32).toNatClampNeg)))) ((a_p1 (v4 : Int32).toNatClampNeg))))))), (0, .ref q0), (1, .ref q1), (3, .int v3), (4, .int v4)]) hx hb dX5_owesAnew_83 hl (k := 3) rfl rfl (by decide) rfl (fun ls hl => ?_)
              refine lv_iinc (v := (v4 + 1)) (lv' := [(4, .int ((v4 + 1))), (2, .int ((v2 + 1))), (5, .int ((mn 9999 ((mn ((-((a_p1 (v3 : Int32).toNatClampNeg)))) ((a_p1 (v4 : Int32).toNatClampNeg))))))), (0, .ref q0), (1, .ref q1), (3, .int v3)]) hx hb dX5_owesAnew_86 hl (k := 5) rfl rfl (by decide) rfl (fun ls hl => ?_)
              refine lv_goto (tgt := 21) hx hb dX5_owesAnew_89 (by decide) ?_
              exact ih ((v2 + 1)) ((v4 + 1)) ((upd a_debt ((((v3 * 7)) + v4) : Int32).toNatClampNeg ((mn 9999 ((mn ((-((a_p1 (v3 : Int32).toNatClampNeg)))) ((a_p1 (v4 : Int32).toNatClampNeg)))))))) ((upd ((upd a_p1 (v3 : Int32).toNatClampNeg ((((a_p1 (v3 : Int32).toNatClampNeg)) + ((mn 9999 ((mn ((-((a_p1 (v3 : Int32).toNatClampNeg)))) ((a_p1 (v4 : Int32).toNatClampNeg)))))))))) (v4 : Int32).toNatClampNeg ((((((upd a_p1 (v3 : Int32).toNatClampNeg ((((a_p1 (v3 : Int32).toNatClampNeg)) + ((mn 9999 ((mn ((-((a_p1 (v3 : Int32).toNatClampNeg)))) ((a_p1 (v4 : Int32).toNatClampNeg)))))))))) (v4 : Int32).toNatClampNeg)) - ((mn 9999 ((mn ((-((a_p1 (v3 : Int32).toNatClampNeg)))) ((a_p1 (v4 : Int32).toNatClampNeg)))))))))) _ hf hE _ _ _ (lv_sub hl [3, 4, 1, 5, 0] rfl) hP hD hS
      intro H locs ls hl hP hD hS
      rw [fX5_owesAnew_L12] at hf
      refine lv_iload_n hx hb dX5_owesAnew_12 rfl (lv_at hl 3 rfl) ?_
      refine lv_bipush (v := 7) hx hb dX5_owesAnew_13 (by decide) ?_
      refine lv_icmp_ge (tgt := 98) hx hb dX5_owesAnew_15 (by decide) (fun c3 => ?_) (fun c3 => ?_)
      · rw [if_pos c3] at hf
        have hf := Option.some.inj hf
        subst hf
        exact hE _ _ _ (lv_sub hl [2] rfl) hP hD hS
      · rw [if_neg c3] at hf
        refine lv_iconst (v := 0) hx hb dX5_owesAnew_18 (by decide) ?_
        refine lv_istore (lv' := [(4, .int 0), (0, .ref q0), (1, .ref q1), (2, .int v2), (3, .int v3)]) hx hb dX5_owesAnew_19 hl (by decide) rfl (fun ls hl => ?_)
        obtain ⟨o13, hg14, hf⟩ := bd_some hf
        refine L21 v3 FU v2 0 a_debt a_p1 o13 hg14 ?_ _ _ _ (lv_sub hl [1, 2, 3, 4, 0] rfl) hP hD hS
        intro H locs ls hl hP hD hS
        refine lv_iinc (v := (v3 + 1)) (lv' := [(3, .int ((v3 + 1))), (0, .ref q0), (1, .ref q1), (2, .int o13.1)]) hx hb dX5_owesAnew_92 hl (k := 3) rfl rfl (by decide) rfl (fun ls hl => ?_)
        refine lv_goto (tgt := 12) hx hb dX5_owesAnew_95 (by decide) ?_
        exact ih o13.1 ((v3 + 1)) o13.2.1 o13.2.2 _ hf hE _ _ _ (lv_sub hl [1, 2, 3, 0] rfl) hP hD hS
  intro H locs ls hl hP hD hS
  have hl : lv_has ls 6 [(0, .ref q0), (1, .ref q1)] := hl
  unfold fX5_owesAnew at hf
  refine lv_iconst (v := 0) hx hb dX5_owesAnew_0 (by decide) ?_
  refine lv_istore_n (lv' := [(2, .int 0), (0, .ref q0), (1, .ref q1)]) hx hb dX5_owesAnew_1 rfl hl (by decide) rfl (fun ls hl => ?_)
  refine lv_aload_n hx hb dX5_owesAnew_2 rfl (lv_at hl 1 rfl) ?_
  refine gf_RX5_18 C hP 0 rfl rfl dX5_owesAnew_3 ?_
  refine lv_iconst (v := 0) hx hb dX5_owesAnew_6 (by decide) ?_
  obtain ⟨o1, hg2, hf⟩ := bd_some hf
  refine k_SV (As := [.ref q0_debt, .int 0]) C K_RX5_51 (Nat.le_of_ble_eq_true rfl) (Nat.le_of_ble_eq_true rfl) (kJ7_fill_53178 l E q0_debt 49 a_debt 0 o1 hg2) [1] rfl rfl rfl  hP hD hS hA hl.1 (Nat.le_of_ble_eq_true rfl) rfl dX5_owesAnew_7 (fun H locs hP hD hS => ?_)
  have hP : va_P E.1 classes (WX5_owesAnew E q0 q0_snow q0_path q0_debt q1 n_p1 i_now o1 a_p1) H := hP
  have hD : va_D A (WX5_owesAnew E q0 q0_snow q0_path q0_debt q1 n_p1 i_now o1 a_p1) := hD
  refine lv_iconst (v := 0) hx hb dX5_owesAnew_10 (by decide) ?_
  refine lv_istore_n (lv' := [(3, .int 0), (2, .int 0), (0, .ref q0), (1, .ref q1)]) hx hb dX5_owesAnew_11 rfl hl (by decide) rfl (fun ls hl => ?_)
  obtain ⟨o15, hg16, hf⟩ := bd_some hf
  refine L12 FU 0 0 o1 a_p1 o15 hg16 ?_ _ _ _ (lv_sub hl [2, 3, 1, 0] rfl) hP hD hS
  intro H locs ls hl hP hD hS
  refine lv_iload_n hx hb dX5_owesAnew_98 rfl (lv_at hl 0 rfl) ?_
  have hj0 := Option.some.inj hf
  obtain ⟨ha0, hj1⟩ := Prod.mk.inj hj0
  obtain ⟨ha1, hj2⟩ := Prod.mk.inj hj1
  subst ha0
  subst ha1
  subst hj2
  exact hret _ _ _ _ dX5_owesAnew_99 rfl hP hD hS
theorem K_RX7_25 : KV RX7 25 yX7_has cX7_has 2 (some .boolean) 1 := ⟨Tg_mem 717 (by decide +kernel) (by decide +kernel), Tg_mem 92 (by decide +kernel) (by decide +kernel), Tg_mem 757 (by decide +kernel) (by decide +kernel), Tg_mem 715 (by decide +kernel) (by decide +kernel), Tg_mem 716 (by decide +kernel) (by decide +kernel), by decide +kernel⟩
theorem dX7_hasTwo_0 : decode cX7_hasTwo 0 = .ok (.aload_n 0, 1) := by decide +kernel
theorem dX7_hasTwo_1 : decode cX7_hasTwo 1 = .ok (.iload_n 1, 1) := by decide +kernel
theorem dX7_hasTwo_2 : decode cX7_hasTwo 2 = .ok (.invokevirtual 25, 3) := by decide +kernel
theorem dX7_hasTwo_5 : decode cX7_hasTwo 5 = .ok (.ifCond .eq 20, 3) := by decide +kernel
theorem dX7_hasTwo_8 : decode cX7_hasTwo 8 = .ok (.aload_n 0, 1) := by decide +kernel
theorem dX7_hasTwo_9 : decode cX7_hasTwo 9 = .ok (.iload_n 2, 1) := by decide +kernel
theorem dX7_hasTwo_10 : decode cX7_hasTwo 10 = .ok (.invokevirtual 25, 3) := by decide +kernel
theorem dX7_hasTwo_13 : decode cX7_hasTwo 13 = .ok (.ifCond .eq 12, 3) := by decide +kernel
theorem dX7_hasTwo_16 : decode cX7_hasTwo 16 = .ok (.iload_n 1, 1) := by decide +kernel
theorem dX7_hasTwo_17 : decode cX7_hasTwo 17 = .ok (.iload_n 2, 1) := by decide +kernel
theorem dX7_hasTwo_18 : decode cX7_hasTwo 18 = .ok (.if_icmp .eq 7, 3) := by decide +kernel
theorem dX7_hasTwo_21 : decode cX7_hasTwo 21 = .ok (.iconst 1, 1) := by decide +kernel
theorem dX7_hasTwo_22 : decode cX7_hasTwo 22 = .ok (.goto 4, 3) := by decide +kernel
theorem dX7_hasTwo_25 : decode cX7_hasTwo 25 = .ok (.iconst 0, 1) := by decide +kernel
theorem dX7_hasTwo_26 : decode cX7_hasTwo 26 = .ok (.ireturn, 1) := by decide +kernel
def WX7_hasTwo (E : ENV) (q0 : Nat) (q0_hold : Nat) (q0_below : Nat) (q0_hay : Nat) (i_houses : Int32) : va_W := [(q0, .inr (7, [.ref q0_hold, .ref q0_below, .ref q0_hay, .int i_houses]))]
set_option maxHeartbeats 4000000 in
set_option maxRecDepth 20000 in
theorem kX7_hasTwo (l : Launch) (E : ENV) (q0 : Nat) (q0_hold : Nat) (q0_below : Nat) (q0_hay : Nat) (i_houses : Int32) (p1 : Int32) (p2 : Int32) (r9 : Int32) (hf : fX7_hasTwo i_houses p1 p2 = some r9) : CI l E yX7_hasTwo cX7_hasTwo 3 (some .boolean) 1 [.ref q0, .int p1, .int p2] (WX7_hasTwo E q0 q0_hold q0_below q0_hay i_houses) (WX7_hasTwo E q0 q0_hold q0_below q0_hay i_houses) r9 := by
  refine begI (by decide +kernel) (Nat.le_of_ble_eq_true rfl) ?_
  intro p e s m args below meth c A Q C hA hret
  have hx := C.1
  have hb := C.2.1
  intro H locs ls hl hP hD hS
  have hl : lv_has ls 3 [(0, .ref q0), (1, .int p1), (2, .int p2)] := hl
  unfold fX7_hasTwo at hf
  refine lv_aload_n hx hb dX7_hasTwo_0 rfl (lv_at hl 0 rfl) ?_
  refine lv_iload_n hx hb dX7_hasTwo_1 rfl (lv_at hl 1 rfl) ?_
  obtain ⟨o1, hg2, hf⟩ := bd_some hf
  refine k_VI (As := [.int p1]) C K_RX7_25 (Nat.le_of_ble_eq_true rfl) (Nat.le_of_ble_eq_true rfl) (kX7_has l E q0 q0_hold q0_below q0_hay i_houses p1 o1 hg2) [0] rfl rfl rfl (ci := 7) rfl rfl (q0 := 0) rfl hP hD hS hA hl.1 (Nat.le_of_ble_eq_true rfl) rfl dX7_hasTwo_2 (fun H locs hP hD hS => ?_)
  have hP : va_P E.1 classes (WX7_hasTwo E q0 q0_hold q0_below q0_hay i_houses) H := hP
  have hD : va_D A (WX7_hasTwo E q0 q0_hold q0_below q0_hay i_houses) := hD
  refine lv_if_eq (tgt := 25) hx hb dX7_hasTwo_5 (by decide) (fun c3 => ?_) (fun c3 => ?_)
  · rw [if_pos c3] at hf
    refine lv_iconst (v := 0) hx hb dX7_hasTwo_25 (by decide) ?_
    have hj0 := Option.some.inj hf
    subst hj0
    exact hret _ _ _ _ dX7_hasTwo_26 rfl hP hD hS
  · rw [if_neg c3] at hf
    refine lv_aload_n hx hb dX7_hasTwo_8 rfl (lv_at hl 0 rfl) ?_
    refine lv_iload_n hx hb dX7_hasTwo_9 rfl (lv_at hl 2 rfl) ?_
    obtain ⟨o4, hg5, hf⟩ := bd_some hf
    refine k_VI (As := [.int p2]) C K_RX7_25 (Nat.le_of_ble_eq_true rfl) (Nat.le_of_ble_eq_true rfl) (kX7_has l E q0 q0_hold q0_below q0_hay i_houses p2 o4 hg5) [0] rfl rfl rfl (ci := 7) rfl rfl (q0 := 0) rfl hP hD hS hA hl.1 (Nat.le_of_ble_eq_true rfl) rfl dX7_hasTwo_10 (fun H locs hP hD hS => ?_)
    have hP : va_P E.1 classes (WX7_hasTwo E q0 q0_hold q0_below q0_hay i_houses) H := hP
    have hD : va_D A (WX7_hasTwo E q0 q0_hold q0_below q0_hay i_houses) := hD
    refine lv_if_eq (tgt := 25) hx hb dX7_hasTwo_13 (by decide) (fun c6 => ?_) (fun c6 => ?_)
    · rw [if_pos c6] at hf
      refine lv_iconst (v := 0) hx hb dX7_hasTwo_25 (by decide) ?_
      have hj0 := Option.some.inj hf
      subst hj0
      exact hret _ _ _ _ dX7_hasTwo_26 rfl hP hD hS
    · rw [if_neg c6] at hf
      refine lv_iload_n hx hb dX7_hasTwo_16 rfl (lv_at hl 1 rfl) ?_
      refine lv_iload_n hx hb dX7_hasTwo_17 rfl (lv_at hl 2 rfl) ?_
      refine lv_icmp_eq (tgt := 25) hx hb dX7_hasTwo_18 (by decide) (fun c7 => ?_) (fun c7 => ?_)
      · rw [if_pos c7] at hf
        refine lv_iconst (v := 0) hx hb dX7_hasTwo_25 (by decide) ?_
        have hj0 := Option.some.inj hf
        subst hj0
        exact hret _ _ _ _ dX7_hasTwo_26 rfl hP hD hS
      · rw [if_neg c7] at hf
        refine lv_iconst (v := 1) hx hb dX7_hasTwo_21 (by decide) ?_
        refine lv_goto (tgt := 26) hx hb dX7_hasTwo_22 (by decide) ?_
        have hj0 := Option.some.inj hf
        subst hj0
        exact hret _ _ _ _ dX7_hasTwo_26 rfl hP hD hS
theorem dX7_hasSide_0 : decode cX7_hasSide 0 = .ok (.iload_n 1, 1) := by decide +kernel
theorem dX7_hasSide_1 : decode cX7_hasSide 1 = .ok (.ifCond .lt 17, 3) := by decide +kernel
theorem dX7_hasSide_4 : decode cX7_hasSide 4 = .ok (.iload_n 1, 1) := by decide +kernel
theorem dX7_hasSide_5 : decode cX7_hasSide 5 = .ok (.iconst 2, 1) := by decide +kernel
theorem dX7_hasSide_6 : decode cX7_hasSide 6 = .ok (.aload_n 0, 1) := by decide +kernel
theorem dX7_hasSide_7 : decode cX7_hasSide 7 = .ok (.getfield 21, 3) := by decide +kernel
theorem dX7_hasSide_10 : decode cX7_hasSide 10 = .ok (.imul, 1) := by decide +kernel
theorem dX7_hasSide_11 : decode cX7_hasSide 11 = .ok (.if_icmp .ge 7, 3) := by decide +kernel
theorem dX7_hasSide_14 : decode cX7_hasSide 14 = .ok (.iconst 1, 1) := by decide +kernel
theorem dX7_hasSide_15 : decode cX7_hasSide 15 = .ok (.goto 4, 3) := by decide +kernel
theorem dX7_hasSide_18 : decode cX7_hasSide 18 = .ok (.iconst 0, 1) := by decide +kernel
theorem dX7_hasSide_19 : decode cX7_hasSide 19 = .ok (.ireturn, 1) := by decide +kernel
def WX7_hasSide (E : ENV) (q0 : Nat) (q0_hold : Nat) (q0_below : Nat) (q0_hay : Nat) (i_houses : Int32) : va_W := [(q0, .inr (7, [.ref q0_hold, .ref q0_below, .ref q0_hay, .int i_houses]))]
set_option maxHeartbeats 4000000 in
set_option maxRecDepth 20000 in
theorem kX7_hasSide (l : Launch) (E : ENV) (q0 : Nat) (q0_hold : Nat) (q0_below : Nat) (q0_hay : Nat) (i_houses : Int32) (p1 : Int32) (r9 : Int32) (hf : fX7_hasSide i_houses p1 = some r9) : CI l E yX7_hasSide cX7_hasSide 2 (some .boolean) 0 [.ref q0, .int p1] (WX7_hasSide E q0 q0_hold q0_below q0_hay i_houses) (WX7_hasSide E q0 q0_hold q0_below q0_hay i_houses) r9 := by
  refine begI (by decide +kernel) (Nat.le_of_ble_eq_true rfl) ?_
  intro p e s m args below meth c A Q C hA hret
  have hx := C.1
  have hb := C.2.1
  intro H locs ls hl hP hD hS
  have hl : lv_has ls 2 [(0, .ref q0), (1, .int p1)] := hl
  unfold fX7_hasSide at hf
  refine lv_iload_n hx hb dX7_hasSide_0 rfl (lv_at hl 1 rfl) ?_
  refine lv_if_lt (tgt := 18) hx hb dX7_hasSide_1 (by decide) (fun c1 => ?_) (fun c1 => ?_)
  · rw [if_pos c1] at hf
    refine lv_iconst (v := 0) hx hb dX7_hasSide_18 (by decide) ?_
    have hj0 := Option.some.inj hf
    subst hj0
    exact hret _ _ _ _ dX7_hasSide_19 rfl hP hD hS
  · rw [if_neg c1] at hf
    refine lv_iload_n hx hb dX7_hasSide_4 rfl (lv_at hl 1 rfl) ?_
    refine lv_iconst (v := 2) hx hb dX7_hasSide_5 (by decide) ?_
    refine lv_aload_n hx hb dX7_hasSide_6 rfl (lv_at hl 0 rfl) ?_
    refine gf_RX7_21 C hP 0 rfl rfl dX7_hasSide_7 ?_
    refine lv_imul hx hb dX7_hasSide_10 ?_
    refine lv_icmp_ge (tgt := 18) hx hb dX7_hasSide_11 (by decide) (fun c2 => ?_) (fun c2 => ?_)
    · rw [if_pos c2] at hf
      refine lv_iconst (v := 0) hx hb dX7_hasSide_18 (by decide) ?_
      have hj0 := Option.some.inj hf
      subst hj0
      exact hret _ _ _ _ dX7_hasSide_19 rfl hP hD hS
    · rw [if_neg c2] at hf
      refine lv_iconst (v := 1) hx hb dX7_hasSide_14 (by decide) ?_
      refine lv_goto (tgt := 19) hx hb dX7_hasSide_15 (by decide) ?_
      have hj0 := Option.some.inj hf
      subst hj0
      exact hret _ _ _ _ dX7_hasSide_19 rfl hP hD hS
theorem dX7_allBits_0 : decode cX7_allBits 0 = .ok (.iconst 1, 1) := by decide +kernel
theorem dX7_allBits_1 : decode cX7_allBits 1 = .ok (.aload_n 0, 1) := by decide +kernel
theorem dX7_allBits_2 : decode cX7_allBits 2 = .ok (.getfield 21, 3) := by decide +kernel
theorem dX7_allBits_5 : decode cX7_allBits 5 = .ok (.ishl, 1) := by decide +kernel
theorem dX7_allBits_6 : decode cX7_allBits 6 = .ok (.iconst 1, 1) := by decide +kernel
theorem dX7_allBits_7 : decode cX7_allBits 7 = .ok (.isub, 1) := by decide +kernel
theorem dX7_allBits_8 : decode cX7_allBits 8 = .ok (.ireturn, 1) := by decide +kernel
def WX7_allBits (E : ENV) (q0 : Nat) (q0_hold : Nat) (q0_below : Nat) (q0_hay : Nat) (i_houses : Int32) : va_W := [(q0, .inr (7, [.ref q0_hold, .ref q0_below, .ref q0_hay, .int i_houses]))]
set_option maxHeartbeats 4000000 in
set_option maxRecDepth 20000 in
theorem kX7_allBits (l : Launch) (E : ENV) (q0 : Nat) (q0_hold : Nat) (q0_below : Nat) (q0_hay : Nat) (i_houses : Int32) (r9 : Int32) (hf : fX7_allBits i_houses = some r9) : CI l E yX7_allBits cX7_allBits 1 (some .int) 0 [.ref q0] (WX7_allBits E q0 q0_hold q0_below q0_hay i_houses) (WX7_allBits E q0 q0_hold q0_below q0_hay i_houses) r9 := by
  refine begI (by decide +kernel) (Nat.le_of_ble_eq_true rfl) ?_
  intro p e s m args below meth c A Q C hA hret
  have hx := C.1
  have hb := C.2.1
  intro H locs ls hl hP hD hS
  have hl : lv_has ls 1 [(0, .ref q0)] := hl
  unfold fX7_allBits at hf
  refine lv_iconst (v := 1) hx hb dX7_allBits_0 (by decide) ?_
  refine lv_aload_n hx hb dX7_allBits_1 rfl (lv_at hl 0 rfl) ?_
  refine gf_RX7_21 C hP 0 rfl rfl dX7_allBits_2 ?_
  refine lv_ishl hx hb dX7_allBits_5 ?_
  refine lv_iconst (v := 1) hx hb dX7_allBits_6 (by decide) ?_
  refine lv_isub hx hb dX7_allBits_7 ?_
  have hj0 := Option.some.inj hf
  subst hj0
  exact hret _ _ _ _ dX7_allBits_8 rfl hP hD hS
theorem q154 : Cond.fieldLink RX7 15 "SnowForSummer$Town" "below" "[I" ∈ Tg := Tg_mem 154 (by decide +kernel) (by decide +kernel)
theorem gf_RX7_15 {p : Program} {l : Launch} {e : Env} {R : Room} {s : State} {m : MethodId} {args : Array Value} {below : List Frame} {meth : Method} {c : Code} {H : Heap} {locs : List Loc} {cells slots : Nat} {Q : State → Prop} {E : ENV} {cc : ByteArray} {n : Nat} {r : Option FieldType} {pc : Nat} {ls : Array Slot} {rest : List Value} {a : Nat} {ws : va_W} {nm ds : String} {fs : List Value} {A : Nat → Prop} {v : Value} (C : Cx E A ⟨RX7, nm, ds⟩ cc n r p s m args meth c) (hP : va_P E.1 classes ws H) (q0 : Nat) (he : ws[q0]? = some (a, .inr (7, fs))) (hv : fs[1]? = some v) (hdg : decode cc pc = .ok (.getfield 15, 3))
    (kk : W p l e R s m args below meth c H locs cells slots Q (F0 m (pc + 3) ls (v :: rest))) : W p l e R s m args below meth c H locs cells slots Q (F0 m pc ls (.ref a :: rest)) :=
  va_get (C := RX7) (T := TX7) (N := 4) (Ts := wl ⟨RX7, nm, ds⟩ cc n r) C.1 C.2.1 C.2.2.2.2.1 (fun w h => List.mem_cons_of_mem _ (inT7 w h)) C.2.2.2.1 C.2.2.2.2.2.1 hP q0 he rfl 1 (by decide) (C.2.2.2.2.1 _ (List.mem_cons_of_mem _ q154)) (fun _ h9 => h9) hv hdg kk
theorem q151 : Cond.fieldLink RX7 9 "SnowForSummer$Town" "hold" "[I" ∈ Tg := Tg_mem 151 (by decide +kernel) (by decide +kernel)
theorem gf_RX7_9 {p : Program} {l : Launch} {e : Env} {R : Room} {s : State} {m : MethodId} {args : Array Value} {below : List Frame} {meth : Method} {c : Code} {H : Heap} {locs : List Loc} {cells slots : Nat} {Q : State → Prop} {E : ENV} {cc : ByteArray} {n : Nat} {r : Option FieldType} {pc : Nat} {ls : Array Slot} {rest : List Value} {a : Nat} {ws : va_W} {nm ds : String} {fs : List Value} {A : Nat → Prop} {v : Value} (C : Cx E A ⟨RX7, nm, ds⟩ cc n r p s m args meth c) (hP : va_P E.1 classes ws H) (q0 : Nat) (he : ws[q0]? = some (a, .inr (7, fs))) (hv : fs[0]? = some v) (hdg : decode cc pc = .ok (.getfield 9, 3))
    (kk : W p l e R s m args below meth c H locs cells slots Q (F0 m (pc + 3) ls (v :: rest))) : W p l e R s m args below meth c H locs cells slots Q (F0 m pc ls (.ref a :: rest)) :=
  va_get (C := RX7) (T := TX7) (N := 4) (Ts := wl ⟨RX7, nm, ds⟩ cc n r) C.1 C.2.1 C.2.2.2.2.1 (fun w h => List.mem_cons_of_mem _ (inT7 w h)) C.2.2.2.1 C.2.2.2.2.2.1 hP q0 he rfl 0 (by decide) (C.2.2.2.2.1 _ (List.mem_cons_of_mem _ q151)) (fun _ h9 => h9) hv hdg kk
theorem dX7_rebuild_0 : decode cX7_rebuild 0 = .ok (.aload_n 0, 1) := by decide +kernel
theorem dX7_rebuild_1 : decode cX7_rebuild 1 = .ok (.iload_n 1, 1) := by decide +kernel
theorem dX7_rebuild_2 : decode cX7_rebuild 2 = .ok (.invokevirtual 25, 3) := by decide +kernel
theorem dX7_rebuild_5 : decode cX7_rebuild 5 = .ok (.ifCond .ne 5, 3) := by decide +kernel
theorem dX7_rebuild_8 : decode cX7_rebuild 8 = .ok (.iconst (-1), 1) := by decide +kernel
theorem dX7_rebuild_9 : decode cX7_rebuild 9 = .ok (.ireturn, 1) := by decide +kernel
theorem dX7_rebuild_10 : decode cX7_rebuild 10 = .ok (.iload_n 2, 1) := by decide +kernel
theorem dX7_rebuild_11 : decode cX7_rebuild 11 = .ok (.iconst (-1), 1) := by decide +kernel
theorem dX7_rebuild_12 : decode cX7_rebuild 12 = .ok (.if_icmp .eq 19, 3) := by decide +kernel
theorem dX7_rebuild_15 : decode cX7_rebuild 15 = .ok (.aload_n 0, 1) := by decide +kernel
theorem dX7_rebuild_16 : decode cX7_rebuild 16 = .ok (.getfield 9, 3) := by decide +kernel
theorem dX7_rebuild_19 : decode cX7_rebuild 19 = .ok (.iload_n 1, 1) := by decide +kernel
theorem dX7_rebuild_20 : decode cX7_rebuild 20 = .ok (.iaload, 1) := by decide +kernel
theorem dX7_rebuild_21 : decode cX7_rebuild 21 = .ok (.istore_n 3, 1) := by decide +kernel
theorem dX7_rebuild_22 : decode cX7_rebuild 22 = .ok (.aload_n 0, 1) := by decide +kernel
theorem dX7_rebuild_23 : decode cX7_rebuild 23 = .ok (.getfield 9, 3) := by decide +kernel
theorem dX7_rebuild_26 : decode cX7_rebuild 26 = .ok (.iload_n 1, 1) := by decide +kernel
theorem dX7_rebuild_27 : decode cX7_rebuild 27 = .ok (.iload_n 2, 1) := by decide +kernel
theorem dX7_rebuild_28 : decode cX7_rebuild 28 = .ok (.iastore, 1) := by decide +kernel
theorem dX7_rebuild_29 : decode cX7_rebuild 29 = .ok (.iload_n 3, 1) := by decide +kernel
theorem dX7_rebuild_30 : decode cX7_rebuild 30 = .ok (.ireturn, 1) := by decide +kernel
theorem dX7_rebuild_31 : decode cX7_rebuild 31 = .ok (.aload_n 0, 1) := by decide +kernel
theorem dX7_rebuild_32 : decode cX7_rebuild 32 = .ok (.getfield 15, 3) := by decide +kernel
theorem dX7_rebuild_35 : decode cX7_rebuild 35 = .ok (.iconst 2, 1) := by decide +kernel
theorem dX7_rebuild_36 : decode cX7_rebuild 36 = .ok (.iload_n 1, 1) := by decide +kernel
theorem dX7_rebuild_37 : decode cX7_rebuild 37 = .ok (.imul, 1) := by decide +kernel
theorem dX7_rebuild_38 : decode cX7_rebuild 38 = .ok (.iaload, 1) := by decide +kernel
theorem dX7_rebuild_39 : decode cX7_rebuild 39 = .ok (.istore_n 3, 1) := by decide +kernel
theorem dX7_rebuild_40 : decode cX7_rebuild 40 = .ok (.aload_n 0, 1) := by decide +kernel
theorem dX7_rebuild_41 : decode cX7_rebuild 41 = .ok (.getfield 15, 3) := by decide +kernel
theorem dX7_rebuild_44 : decode cX7_rebuild 44 = .ok (.iconst 2, 1) := by decide +kernel
theorem dX7_rebuild_45 : decode cX7_rebuild 45 = .ok (.iload_n 1, 1) := by decide +kernel
theorem dX7_rebuild_46 : decode cX7_rebuild 46 = .ok (.imul, 1) := by decide +kernel
theorem dX7_rebuild_47 : decode cX7_rebuild 47 = .ok (.aload_n 0, 1) := by decide +kernel
theorem dX7_rebuild_48 : decode cX7_rebuild 48 = .ok (.getfield 15, 3) := by decide +kernel
theorem dX7_rebuild_51 : decode cX7_rebuild 51 = .ok (.iconst 2, 1) := by decide +kernel
theorem dX7_rebuild_52 : decode cX7_rebuild 52 = .ok (.iload_n 1, 1) := by decide +kernel
theorem dX7_rebuild_53 : decode cX7_rebuild 53 = .ok (.imul, 1) := by decide +kernel
theorem dX7_rebuild_54 : decode cX7_rebuild 54 = .ok (.iconst 1, 1) := by decide +kernel
theorem dX7_rebuild_55 : decode cX7_rebuild 55 = .ok (.iadd, 1) := by decide +kernel
theorem dX7_rebuild_56 : decode cX7_rebuild 56 = .ok (.iaload, 1) := by decide +kernel
theorem dX7_rebuild_57 : decode cX7_rebuild 57 = .ok (.iastore, 1) := by decide +kernel
theorem dX7_rebuild_58 : decode cX7_rebuild 58 = .ok (.aload_n 0, 1) := by decide +kernel
theorem dX7_rebuild_59 : decode cX7_rebuild 59 = .ok (.getfield 15, 3) := by decide +kernel
theorem dX7_rebuild_62 : decode cX7_rebuild 62 = .ok (.iconst 2, 1) := by decide +kernel
theorem dX7_rebuild_63 : decode cX7_rebuild 63 = .ok (.iload_n 1, 1) := by decide +kernel
theorem dX7_rebuild_64 : decode cX7_rebuild 64 = .ok (.imul, 1) := by decide +kernel
theorem dX7_rebuild_65 : decode cX7_rebuild 65 = .ok (.iconst 1, 1) := by decide +kernel
theorem dX7_rebuild_66 : decode cX7_rebuild 66 = .ok (.iadd, 1) := by decide +kernel
theorem dX7_rebuild_67 : decode cX7_rebuild 67 = .ok (.iload_n 3, 1) := by decide +kernel
theorem dX7_rebuild_68 : decode cX7_rebuild 68 = .ok (.iastore, 1) := by decide +kernel
theorem dX7_rebuild_69 : decode cX7_rebuild 69 = .ok (.iconst (-1), 1) := by decide +kernel
theorem dX7_rebuild_70 : decode cX7_rebuild 70 = .ok (.ireturn, 1) := by decide +kernel
def WX7_rebuild (E : ENV) (q0 : Nat) (q0_hold : Nat) (q0_below : Nat) (q0_hay : Nat) (i_houses : Int32) (a_hold : Nat → Int32) (a_below : Nat → Int32) : va_W := [(q0, .inr (7, [.ref q0_hold, .ref q0_below, .ref q0_hay, .int i_houses])), (q0_hold, .inl (E.2.1, 7, .inl a_hold)), (q0_below, .inl (E.2.1, 14, .inl a_below))]
set_option maxHeartbeats 4000000 in
set_option maxRecDepth 20000 in
theorem kX7_rebuild (l : Launch) (E : ENV) (q0 : Nat) (q0_hold : Nat) (q0_below : Nat) (q0_hay : Nat) (i_houses : Int32) (a_hold : Nat → Int32) (a_below : Nat → Int32) (p1 : Int32) (p2 : Int32) (r9 : Int32) (a_hold9 : Nat → Int32) (a_below9 : Nat → Int32) (hf : fX7_rebuild i_houses a_hold a_below p1 p2 = some (r9, a_hold9, a_below9)) : CI l E yX7_rebuild cX7_rebuild 4 (some .int) 1 [.ref q0, .int p1, .int p2] (WX7_rebuild E q0 q0_hold q0_below q0_hay i_houses a_hold a_below) (WX7_rebuild E q0 q0_hold q0_below q0_hay i_houses a_hold9 a_below9) r9 := by
  refine begI (by decide +kernel) (Nat.le_of_ble_eq_true rfl) ?_
  intro p e s m args below meth c A Q C hA hret
  have hx := C.1
  have hb := C.2.1
  intro H locs ls hl hP hD hS
  have hl : lv_has ls 4 [(0, .ref q0), (1, .int p1), (2, .int p2)] := hl
  unfold fX7_rebuild at hf
  refine lv_aload_n hx hb dX7_rebuild_0 rfl (lv_at hl 0 rfl) ?_
  refine lv_iload_n hx hb dX7_rebuild_1 rfl (lv_at hl 1 rfl) ?_
  obtain ⟨o1, hg2, hf⟩ := bd_some hf
  refine k_VI (As := [.int p1]) C K_RX7_25 (Nat.le_of_ble_eq_true rfl) (Nat.le_of_ble_eq_true rfl) (kX7_has l E q0 q0_hold q0_below q0_hay i_houses p1 o1 hg2) [0] rfl rfl rfl (ci := 7) rfl rfl (q0 := 0) rfl hP hD hS hA hl.1 (Nat.le_of_ble_eq_true rfl) rfl dX7_rebuild_2 (fun H locs hP hD hS => ?_)
  have hP : va_P E.1 classes (WX7_rebuild E q0 q0_hold q0_below q0_hay i_houses a_hold a_below) H := hP
  have hD : va_D A (WX7_rebuild E q0 q0_hold q0_below q0_hay i_houses a_hold a_below) := hD
  refine lv_if_ne (tgt := 10) hx hb dX7_rebuild_5 (by decide) (fun c3 => ?_) (fun c3 => ?_)
  · rw [if_neg c3] at hf
    refine lv_iload_n hx hb dX7_rebuild_10 rfl (lv_at hl 2 rfl) ?_
    refine lv_iconst (v := (-1)) hx hb dX7_rebuild_11 (by decide) ?_
    refine lv_icmp_eq (tgt := 31) hx hb dX7_rebuild_12 (by decide) (fun c4 => ?_) (fun c4 => ?_)
    · rw [if_pos c4] at hf
      refine lv_aload_n hx hb dX7_rebuild_31 rfl (lv_at hl 0 rfl) ?_
      refine gf_RX7_15 C hP 0 rfl rfl dX7_rebuild_32 ?_
      refine lv_iconst (v := 2) hx hb dX7_rebuild_35 (by decide) ?_
      refine lv_iload_n hx hb dX7_rebuild_36 rfl (lv_at hl 1 rfl) ?_
      refine lv_imul hx hb dX7_rebuild_37 ?_
      obtain ⟨g5, hf⟩ := gd_some hf
      refine va_iald hx hb C.2.2.2.2.2.1 hP 2 0 rfl rfl (vin_in g5) dX7_rebuild_38 ?_
      refine lv_istore_n (lv' := [(3, .int ((a_below ((2 * p1) : Int32).toNatClampNeg))), (0, .ref q0), (1, .int p1), (2, .int p2)]) hx hb dX7_rebuild_39 rfl hl (by decide) rfl (fun ls hl => ?_)
      refine lv_aload_n hx hb dX7_rebuild_40 rfl (lv_at hl 1 rfl) ?_
      refine gf_RX7_15 C hP 0 rfl rfl dX7_rebuild_41 ?_
      refine lv_iconst (v := 2) hx hb dX7_rebuild_44 (by decide) ?_
      refine lv_iload_n hx hb dX7_rebuild_45 rfl (lv_at hl 2 rfl) ?_
      refine lv_imul hx hb dX7_rebuild_46 ?_
      refine lv_aload_n hx hb dX7_rebuild_47 rfl (lv_at hl 1 rfl) ?_
      refine gf_RX7_15 C hP 0 rfl rfl dX7_rebuild_48 ?_
      refine lv_iconst (v := 2) hx hb dX7_rebuild_51 (by decide) ?_
      refine lv_iload_n hx hb dX7_rebuild_52 rfl (lv_at hl 2 rfl) ?_
      refine lv_imul hx hb dX7_rebuild_53 ?_
      refine lv_iconst (v := 1) hx hb dX7_rebuild_54 (by decide) ?_
      refine lv_iadd hx hb dX7_rebuild_55 ?_
      obtain ⟨g6, hf⟩ := gd_some hf
      refine va_iald hx hb C.2.2.2.2.2.1 hP 2 0 rfl rfl (vin_in g6) dX7_rebuild_56 ?_
      obtain ⟨g7, hf⟩ := gd_some hf
      refine va_iast hx hb C.2.2.2.2.2.1 hP hD hS 2 0 rfl rfl (vin_in g7) dX7_rebuild_57 (fun H locs hP hD hS => ?_)
      have hP : va_P E.1 classes (WX7_rebuild E q0 q0_hold q0_below q0_hay i_houses a_hold ((upd a_below ((2 * p1) : Int32).toNatClampNeg ((a_below ((((2 * p1)) + 1) : Int32).toNatClampNeg))))) H := hP
      have hD : va_D A (WX7_rebuild E q0 q0_hold q0_below q0_hay i_houses a_hold ((upd a_below ((2 * p1) : Int32).toNatClampNeg ((a_below ((((2 * p1)) + 1) : Int32).toNatClampNeg))))) := hD
      refine lv_aload_n hx hb dX7_rebuild_58 rfl (lv_at hl 1 rfl) ?_
      refine gf_RX7_15 C hP 0 rfl rfl dX7_rebuild_59 ?_
      refine lv_iconst (v := 2) hx hb dX7_rebuild_62 (by decide) ?_
      refine lv_iload_n hx hb dX7_rebuild_63 rfl (lv_at hl 2 rfl) ?_
      refine lv_imul hx hb dX7_rebuild_64 ?_
      refine lv_iconst (v := 1) hx hb dX7_rebuild_65 (by decide) ?_
      refine lv_iadd hx hb dX7_rebuild_66 ?_
      refine lv_iload_n hx hb dX7_rebuild_67 rfl (lv_at hl 0 rfl) ?_
      obtain ⟨g8, hf⟩ := gd_some hf
      refine va_iast hx hb C.2.2.2.2.2.1 hP hD hS 2 0 rfl rfl (vin_in g8) dX7_rebuild_68 (fun H locs hP hD hS => ?_)
      have hP : va_P E.1 classes (WX7_rebuild E q0 q0_hold q0_below q0_hay i_houses a_hold ((upd ((upd a_below ((2 * p1) : Int32).toNatClampNeg ((a_below ((((2 * p1)) + 1) : Int32).toNatClampNeg)))) ((((2 * p1)) + 1) : Int32).toNatClampNeg ((a_below ((2 * p1) : Int32).toNatClampNeg))))) H := hP
      have hD : va_D A (WX7_rebuild E q0 q0_hold q0_below q0_hay i_houses a_hold ((upd ((upd a_below ((2 * p1) : Int32).toNatClampNeg ((a_below ((((2 * p1)) + 1) : Int32).toNatClampNeg)))) ((((2 * p1)) + 1) : Int32).toNatClampNeg ((a_below ((2 * p1) : Int32).toNatClampNeg))))) := hD
      refine lv_iconst (v := (-1)) hx hb dX7_rebuild_69 (by decide) ?_
      have hj0 := Option.some.inj hf
      obtain ⟨ha0, hj1⟩ := Prod.mk.inj hj0
      obtain ⟨ha1, hj2⟩ := Prod.mk.inj hj1
      subst ha0
      subst ha1
      subst hj2
      exact hret _ _ _ _ dX7_rebuild_70 rfl hP hD hS
    · rw [if_neg c4] at hf
      refine lv_aload_n hx hb dX7_rebuild_15 rfl (lv_at hl 0 rfl) ?_
      refine gf_RX7_9 C hP 0 rfl rfl dX7_rebuild_16 ?_
      refine lv_iload_n hx hb dX7_rebuild_19 rfl (lv_at hl 1 rfl) ?_
      obtain ⟨g9, hf⟩ := gd_some hf
      refine va_iald hx hb C.2.2.2.2.2.1 hP 1 0 rfl rfl (vin_in g9) dX7_rebuild_20 ?_
      refine lv_istore_n (lv' := [(3, .int ((a_hold (p1 : Int32).toNatClampNeg))), (0, .ref q0), (1, .int p1), (2, .int p2)]) hx hb dX7_rebuild_21 rfl hl (by decide) rfl (fun ls hl => ?_)
      refine lv_aload_n hx hb dX7_rebuild_22 rfl (lv_at hl 1 rfl) ?_
      refine gf_RX7_9 C hP 0 rfl rfl dX7_rebuild_23 ?_
      refine lv_iload_n hx hb dX7_rebuild_26 rfl (lv_at hl 2 rfl) ?_
      refine lv_iload_n hx hb dX7_rebuild_27 rfl (lv_at hl 3 rfl) ?_
      obtain ⟨g10, hf⟩ := gd_some hf
      refine va_iast hx hb C.2.2.2.2.2.1 hP hD hS 1 0 rfl rfl (vin_in g10) dX7_rebuild_28 (fun H locs hP hD hS => ?_)
      have hP : va_P E.1 classes (WX7_rebuild E q0 q0_hold q0_below q0_hay i_houses ((upd a_hold (p1 : Int32).toNatClampNeg p2)) a_below) H := hP
      have hD : va_D A (WX7_rebuild E q0 q0_hold q0_below q0_hay i_houses ((upd a_hold (p1 : Int32).toNatClampNeg p2)) a_below) := hD
      refine lv_iload_n hx hb dX7_rebuild_29 rfl (lv_at hl 0 rfl) ?_
      have hj0 := Option.some.inj hf
      obtain ⟨ha0, hj1⟩ := Prod.mk.inj hj0
      obtain ⟨ha1, hj2⟩ := Prod.mk.inj hj1
      subst ha0
      subst ha1
      subst hj2
      exact hret _ _ _ _ dX7_rebuild_30 rfl hP hD hS
  · rw [if_pos c3] at hf
    refine lv_iconst (v := (-1)) hx hb dX7_rebuild_8 (by decide) ?_
    have hj0 := Option.some.inj hf
    obtain ⟨ha0, hj1⟩ := Prod.mk.inj hj0
    obtain ⟨ha1, hj2⟩ := Prod.mk.inj hj1
    subst ha0
    subst ha1
    subst hj2
    exact hret _ _ _ _ dX7_rebuild_9 rfl hP hD hS
theorem K_RX7_54 : KV RX7 54 yX6_takeNumber cX6_takeNumber 5 (some .int) 1 := ⟨Tg_mem 503 (by decide +kernel) (by decide +kernel), Tg_mem 91 (by decide +kernel) (by decide +kernel), Tg_mem 500 (by decide +kernel) (by decide +kernel), Tg_mem 501 (by decide +kernel) (by decide +kernel), Tg_mem 502 (by decide +kernel) (by decide +kernel), by decide +kernel⟩
theorem K_RX7_57 : KV RX7 57 yX6_stepBack cX6_stepBack 1 none 0 := ⟨Tg_mem 515 (by decide +kernel) (by decide +kernel), Tg_mem 91 (by decide +kernel) (by decide +kernel), Tg_mem 512 (by decide +kernel) (by decide +kernel), Tg_mem 513 (by decide +kernel) (by decide +kernel), Tg_mem 514 (by decide +kernel) (by decide +kernel), by decide +kernel⟩
theorem dX7_readHay_0 : decode cX7_readHay 0 = .ok (.aload_n 1, 1) := by decide +kernel
theorem dX7_readHay_1 : decode cX7_readHay 1 = .ok (.iconst 2, 1) := by decide +kernel
theorem dX7_readHay_2 : decode cX7_readHay 2 = .ok (.invokevirtual 54, 3) := by decide +kernel
theorem dX7_readHay_5 : decode cX7_readHay 5 = .ok (.istore_n 2, 1) := by decide +kernel
theorem dX7_readHay_6 : decode cX7_readHay 6 = .ok (.iload_n 2, 1) := by decide +kernel
theorem dX7_readHay_7 : decode cX7_readHay 7 = .ok (.bipush 30, 2) := by decide +kernel
theorem dX7_readHay_9 : decode cX7_readHay 9 = .ok (.if_icmp .le 9, 3) := by decide +kernel
theorem dX7_readHay_12 : decode cX7_readHay 12 = .ok (.aload_n 1, 1) := by decide +kernel
theorem dX7_readHay_13 : decode cX7_readHay 13 = .ok (.invokevirtual 57, 3) := by decide +kernel
theorem dX7_readHay_16 : decode cX7_readHay 16 = .ok (.iconst (-1), 1) := by decide +kernel
theorem dX7_readHay_17 : decode cX7_readHay 17 = .ok (.ireturn, 1) := by decide +kernel
theorem dX7_readHay_18 : decode cX7_readHay 18 = .ok (.iload_n 2, 1) := by decide +kernel
theorem dX7_readHay_19 : decode cX7_readHay 19 = .ok (.ireturn, 1) := by decide +kernel
def WX7_readHay (E : ENV) (q0 : Nat) (q0_hold : Nat) (q0_below : Nat) (q0_hay : Nat) (q1 : Nat) (q1_signs : Nat) (i_houses : Int32) (i_p1_length : Int32) (i_p1_place : Int32) (i_p1_limit : Int32) (a_p1_signs : Nat → Int32) : va_W := [(q0, .inr (7, [.ref q0_hold, .ref q0_below, .ref q0_hay, .int i_houses])), (q1, .inr (6, [.ref q1_signs, .int i_p1_length, .int i_p1_place, .int i_p1_limit])), (q1_signs, .inl (E.2.1, 80, .inl a_p1_signs))]
set_option maxHeartbeats 4000000 in
set_option maxRecDepth 20000 in
theorem kX7_readHay (l : Launch) (E : ENV) (q0 : Nat) (q0_hold : Nat) (q0_below : Nat) (q0_hay : Nat) (q1 : Nat) (q1_signs : Nat) (i_houses : Int32) (i_p1_length : Int32) (i_p1_place : Int32) (i_p1_limit : Int32) (a_p1_signs : Nat → Int32) (r9 : Int32) (i_p1_place9 : Int32) (hf : fX7_readHay i_p1_place i_p1_limit a_p1_signs = some (r9, i_p1_place9)) : CI l E yX7_readHay cX7_readHay 3 (some .int) 3 [.ref q0, .ref q1] (WX7_readHay E q0 q0_hold q0_below q0_hay q1 q1_signs i_houses i_p1_length i_p1_place i_p1_limit a_p1_signs) (WX7_readHay E q0 q0_hold q0_below q0_hay q1 q1_signs i_houses i_p1_length i_p1_place9 i_p1_limit a_p1_signs) r9 := by
  refine begI (by decide +kernel) (Nat.le_of_ble_eq_true rfl) ?_
  intro p e s m args below meth c A Q C hA hret
  have hx := C.1
  have hb := C.2.1
  intro H locs ls hl hP hD hS
  have hl : lv_has ls 3 [(0, .ref q0), (1, .ref q1)] := hl
  unfold fX7_readHay at hf
  refine lv_aload_n hx hb dX7_readHay_0 rfl (lv_at hl 1 rfl) ?_
  refine lv_iconst (v := 2) hx hb dX7_readHay_1 (by decide) ?_
  obtain ⟨o1, hg2, hf⟩ := bd_some hf
  refine k_VI (As := [.int 2]) C K_RX7_54 (Nat.le_of_ble_eq_true rfl) (Nat.le_of_ble_eq_true rfl) (kX6_takeNumber l E q1 q1_signs i_p1_length i_p1_place i_p1_limit a_p1_signs 2 o1.1 o1.2 hg2) [1, 2] rfl rfl rfl (ci := 6) rfl rfl (q0 := 0) rfl hP hD hS hA hl.1 (Nat.le_of_ble_eq_true rfl) rfl dX7_readHay_2 (fun H locs hP hD hS => ?_)
  have hP : va_P E.1 classes (WX7_readHay E q0 q0_hold q0_below q0_hay q1 q1_signs i_houses i_p1_length o1.2 i_p1_limit a_p1_signs) H := hP
  have hD : va_D A (WX7_readHay E q0 q0_hold q0_below q0_hay q1 q1_signs i_houses i_p1_length o1.2 i_p1_limit a_p1_signs) := hD
  refine lv_istore_n (lv' := [(2, .int o1.1), (0, .ref q0), (1, .ref q1)]) hx hb dX7_readHay_5 rfl hl (by decide) rfl (fun ls hl => ?_)
  refine lv_iload_n hx hb dX7_readHay_6 rfl (lv_at hl 0 rfl) ?_
  refine lv_bipush (v := 30) hx hb dX7_readHay_7 (by decide) ?_
  refine lv_icmp_le (tgt := 18) hx hb dX7_readHay_9 (by decide) (fun c3 => ?_) (fun c3 => ?_)
  · rw [if_pos c3] at hf
    refine lv_iload_n hx hb dX7_readHay_18 rfl (lv_at hl 0 rfl) ?_
    have hj0 := Option.some.inj hf
    obtain ⟨ha0, hj1⟩ := Prod.mk.inj hj0
    subst ha0
    subst hj1
    exact hret _ _ _ _ dX7_readHay_19 rfl hP hD hS
  · rw [if_neg c3] at hf
    refine lv_aload_n hx hb dX7_readHay_12 rfl (lv_at hl 2 rfl) ?_
    obtain ⟨o4, hg5, hf⟩ := bd_some hf
    refine k_VV (As := []) C K_RX7_57 (Nat.le_of_ble_eq_true rfl) (Nat.le_of_ble_eq_true rfl) (kX6_stepBack l E q1 q1_signs i_p1_length o1.2 i_p1_limit o4 hg5) [1] rfl rfl rfl (ci := 6) rfl rfl (q0 := 0) rfl hP hD hS hA hl.1 (Nat.le_of_ble_eq_true rfl) rfl dX7_readHay_13 (fun H locs hP hD hS => ?_)
    have hP : va_P E.1 classes (WX7_readHay E q0 q0_hold q0_below q0_hay q1 q1_signs i_houses i_p1_length o4 i_p1_limit a_p1_signs) H := hP
    have hD : va_D A (WX7_readHay E q0 q0_hold q0_below q0_hay q1 q1_signs i_houses i_p1_length o4 i_p1_limit a_p1_signs) := hD
    refine lv_iconst (v := (-1)) hx hb dX7_readHay_16 (by decide) ?_
    have hj0 := Option.some.inj hf
    obtain ⟨ha0, hj1⟩ := Prod.mk.inj hj0
    subst ha0
    subst hj1
    exact hret _ _ _ _ dX7_readHay_17 rfl hP hD hS
theorem K_RX7_47 : KV RX7 47 yX6_take cX6_take 2 (some .boolean) 1 := ⟨Tg_mem 519 (by decide +kernel) (by decide +kernel), Tg_mem 91 (by decide +kernel) (by decide +kernel), Tg_mem 516 (by decide +kernel) (by decide +kernel), Tg_mem 517 (by decide +kernel) (by decide +kernel), Tg_mem 518 (by decide +kernel) (by decide +kernel), by decide +kernel⟩
theorem K_RX7_60 : KV RX7 60 yX6_takeDigit cX6_takeDigit 4 (some .int) 2 := ⟨Tg_mem 507 (by decide +kernel) (by decide +kernel), Tg_mem 91 (by decide +kernel) (by decide +kernel), Tg_mem 520 (by decide +kernel) (by decide +kernel), Tg_mem 505 (by decide +kernel) (by decide +kernel), Tg_mem 506 (by decide +kernel) (by decide +kernel), by decide +kernel⟩
theorem q157 : Cond.fieldLink RX7 18 "SnowForSummer$Town" "hay" "[I" ∈ Tg := Tg_mem 157 (by decide +kernel) (by decide +kernel)
theorem gf_RX7_18 {p : Program} {l : Launch} {e : Env} {R : Room} {s : State} {m : MethodId} {args : Array Value} {below : List Frame} {meth : Method} {c : Code} {H : Heap} {locs : List Loc} {cells slots : Nat} {Q : State → Prop} {E : ENV} {cc : ByteArray} {n : Nat} {r : Option FieldType} {pc : Nat} {ls : Array Slot} {rest : List Value} {a : Nat} {ws : va_W} {nm ds : String} {fs : List Value} {A : Nat → Prop} {v : Value} (C : Cx E A ⟨RX7, nm, ds⟩ cc n r p s m args meth c) (hP : va_P E.1 classes ws H) (q0 : Nat) (he : ws[q0]? = some (a, .inr (7, fs))) (hv : fs[2]? = some v) (hdg : decode cc pc = .ok (.getfield 18, 3))
    (kk : W p l e R s m args below meth c H locs cells slots Q (F0 m (pc + 3) ls (v :: rest))) : W p l e R s m args below meth c H locs cells slots Q (F0 m pc ls (.ref a :: rest)) :=
  va_get (C := RX7) (T := TX7) (N := 4) (Ts := wl ⟨RX7, nm, ds⟩ cc n r) C.1 C.2.1 C.2.2.2.2.1 (fun w h => List.mem_cons_of_mem _ (inT7 w h)) C.2.2.2.1 C.2.2.2.2.2.1 hP q0 he rfl 2 (by decide) (C.2.2.2.2.1 _ (List.mem_cons_of_mem _ q157)) (fun _ h9 => h9) hv hdg kk
theorem K_RX7_64 : KV RX7 64 yX7_readHay cX7_readHay 3 (some .int) 1 := ⟨Tg_mem 524 (by decide +kernel) (by decide +kernel), Tg_mem 92 (by decide +kernel) (by decide +kernel), Tg_mem 521 (by decide +kernel) (by decide +kernel), Tg_mem 523 (by decide +kernel) (by decide +kernel), Tg_mem 1 (by decide +kernel) (by decide +kernel), by decide +kernel⟩
theorem dX7_readLine_0 : decode cX7_readLine 0 = .ok (.aload_n 1, 1) := by decide +kernel
theorem dX7_readLine_1 : decode cX7_readLine 1 = .ok (.iconst 2, 1) := by decide +kernel
theorem dX7_readLine_2 : decode cX7_readLine 2 = .ok (.invokevirtual 54, 3) := by decide +kernel
theorem dX7_readLine_5 : decode cX7_readLine 5 = .ok (.istore_n 3, 1) := by decide +kernel
theorem dX7_readLine_6 : decode cX7_readLine 6 = .ok (.iload_n 3, 1) := by decide +kernel
theorem dX7_readLine_7 : decode cX7_readLine 7 = .ok (.ifCond .ne 7, 3) := by decide +kernel
theorem dX7_readLine_10 : decode cX7_readLine 10 = .ok (.aload_n 1, 1) := by decide +kernel
theorem dX7_readLine_11 : decode cX7_readLine 11 = .ok (.invokevirtual 57, 3) := by decide +kernel
theorem dX7_readLine_14 : decode cX7_readLine 14 = .ok (.iload_n 3, 1) := by decide +kernel
theorem dX7_readLine_15 : decode cX7_readLine 15 = .ok (.ifCond .le 12, 3) := by decide +kernel
theorem dX7_readLine_18 : decode cX7_readLine 18 = .ok (.aload_n 1, 1) := by decide +kernel
theorem dX7_readLine_19 : decode cX7_readLine 19 = .ok (.bipush 44, 2) := by decide +kernel
theorem dX7_readLine_21 : decode cX7_readLine 21 = .ok (.invokevirtual 47, 3) := by decide +kernel
theorem dX7_readLine_24 : decode cX7_readLine 24 = .ok (.ifCond .ne 5, 3) := by decide +kernel
theorem dX7_readLine_27 : decode cX7_readLine 27 = .ok (.iconst 0, 1) := by decide +kernel
theorem dX7_readLine_28 : decode cX7_readLine 28 = .ok (.ireturn, 1) := by decide +kernel
theorem dX7_readLine_29 : decode cX7_readLine 29 = .ok (.aload_n 1, 1) := by decide +kernel
theorem dX7_readLine_30 : decode cX7_readLine 30 = .ok (.iconst 0, 1) := by decide +kernel
theorem dX7_readLine_31 : decode cX7_readLine 31 = .ok (.bipush 6, 2) := by decide +kernel
theorem dX7_readLine_33 : decode cX7_readLine 33 = .ok (.invokevirtual 60, 3) := by decide +kernel
theorem dX7_readLine_36 : decode cX7_readLine 36 = .ok (.istore 4, 2) := by decide +kernel
theorem dX7_readLine_38 : decode cX7_readLine 38 = .ok (.iload 4, 2) := by decide +kernel
theorem dX7_readLine_40 : decode cX7_readLine 40 = .ok (.ifCond .ge 7, 3) := by decide +kernel
theorem dX7_readLine_43 : decode cX7_readLine 43 = .ok (.iconst (-1), 1) := by decide +kernel
theorem dX7_readLine_44 : decode cX7_readLine 44 = .ok (.goto 10, 3) := by decide +kernel
theorem dX7_readLine_47 : decode cX7_readLine 47 = .ok (.aload_n 1, 1) := by decide +kernel
theorem dX7_readLine_48 : decode cX7_readLine 48 = .ok (.iconst 0, 1) := by decide +kernel
theorem dX7_readLine_49 : decode cX7_readLine 49 = .ok (.bipush 6, 2) := by decide +kernel
theorem dX7_readLine_51 : decode cX7_readLine 51 = .ok (.invokevirtual 60, 3) := by decide +kernel
theorem dX7_readLine_54 : decode cX7_readLine 54 = .ok (.istore 5, 2) := by decide +kernel
theorem dX7_readLine_56 : decode cX7_readLine 56 = .ok (.iload 5, 2) := by decide +kernel
theorem dX7_readLine_58 : decode cX7_readLine 58 = .ok (.ifCond .ge 5, 3) := by decide +kernel
theorem dX7_readLine_61 : decode cX7_readLine 61 = .ok (.iconst 0, 1) := by decide +kernel
theorem dX7_readLine_62 : decode cX7_readLine 62 = .ok (.ireturn, 1) := by decide +kernel
theorem dX7_readLine_63 : decode cX7_readLine 63 = .ok (.aload_n 1, 1) := by decide +kernel
theorem dX7_readLine_64 : decode cX7_readLine 64 = .ok (.bipush 42, 2) := by decide +kernel
theorem dX7_readLine_66 : decode cX7_readLine 66 = .ok (.invokevirtual 47, 3) := by decide +kernel
theorem dX7_readLine_69 : decode cX7_readLine 69 = .ok (.ifCond .eq 11, 3) := by decide +kernel
theorem dX7_readLine_72 : decode cX7_readLine 72 = .ok (.aload_n 0, 1) := by decide +kernel
theorem dX7_readLine_73 : decode cX7_readLine 73 = .ok (.aload_n 1, 1) := by decide +kernel
theorem dX7_readLine_74 : decode cX7_readLine 74 = .ok (.invokevirtual 64, 3) := by decide +kernel
theorem dX7_readLine_77 : decode cX7_readLine 77 = .ok (.goto 4, 3) := by decide +kernel
theorem dX7_readLine_80 : decode cX7_readLine 80 = .ok (.iconst 0, 1) := by decide +kernel
theorem dX7_readLine_81 : decode cX7_readLine 81 = .ok (.istore 6, 2) := by decide +kernel
theorem dX7_readLine_83 : decode cX7_readLine 83 = .ok (.iload 6, 2) := by decide +kernel
theorem dX7_readLine_85 : decode cX7_readLine 85 = .ok (.ifCond .ge 5, 3) := by decide +kernel
theorem dX7_readLine_88 : decode cX7_readLine 88 = .ok (.iconst 0, 1) := by decide +kernel
theorem dX7_readLine_89 : decode cX7_readLine 89 = .ok (.ireturn, 1) := by decide +kernel
theorem dX7_readLine_90 : decode cX7_readLine 90 = .ok (.aload_n 0, 1) := by decide +kernel
theorem dX7_readLine_91 : decode cX7_readLine 91 = .ok (.getfield 9, 3) := by decide +kernel
theorem dX7_readLine_94 : decode cX7_readLine 94 = .ok (.iload_n 2, 1) := by decide +kernel
theorem dX7_readLine_95 : decode cX7_readLine 95 = .ok (.iload_n 3, 1) := by decide +kernel
theorem dX7_readLine_96 : decode cX7_readLine 96 = .ok (.iastore, 1) := by decide +kernel
theorem dX7_readLine_97 : decode cX7_readLine 97 = .ok (.aload_n 0, 1) := by decide +kernel
theorem dX7_readLine_98 : decode cX7_readLine 98 = .ok (.getfield 15, 3) := by decide +kernel
theorem dX7_readLine_101 : decode cX7_readLine 101 = .ok (.iconst 2, 1) := by decide +kernel
theorem dX7_readLine_102 : decode cX7_readLine 102 = .ok (.iload_n 2, 1) := by decide +kernel
theorem dX7_readLine_103 : decode cX7_readLine 103 = .ok (.imul, 1) := by decide +kernel
theorem dX7_readLine_104 : decode cX7_readLine 104 = .ok (.iload 4, 2) := by decide +kernel
theorem dX7_readLine_106 : decode cX7_readLine 106 = .ok (.iastore, 1) := by decide +kernel
theorem dX7_readLine_107 : decode cX7_readLine 107 = .ok (.aload_n 0, 1) := by decide +kernel
theorem dX7_readLine_108 : decode cX7_readLine 108 = .ok (.getfield 15, 3) := by decide +kernel
theorem dX7_readLine_111 : decode cX7_readLine 111 = .ok (.iconst 2, 1) := by decide +kernel
theorem dX7_readLine_112 : decode cX7_readLine 112 = .ok (.iload_n 2, 1) := by decide +kernel
theorem dX7_readLine_113 : decode cX7_readLine 113 = .ok (.imul, 1) := by decide +kernel
theorem dX7_readLine_114 : decode cX7_readLine 114 = .ok (.iconst 1, 1) := by decide +kernel
theorem dX7_readLine_115 : decode cX7_readLine 115 = .ok (.iadd, 1) := by decide +kernel
theorem dX7_readLine_116 : decode cX7_readLine 116 = .ok (.iload 5, 2) := by decide +kernel
theorem dX7_readLine_118 : decode cX7_readLine 118 = .ok (.iastore, 1) := by decide +kernel
theorem dX7_readLine_119 : decode cX7_readLine 119 = .ok (.aload_n 0, 1) := by decide +kernel
theorem dX7_readLine_120 : decode cX7_readLine 120 = .ok (.getfield 18, 3) := by decide +kernel
theorem dX7_readLine_123 : decode cX7_readLine 123 = .ok (.iload_n 2, 1) := by decide +kernel
theorem dX7_readLine_124 : decode cX7_readLine 124 = .ok (.iload 6, 2) := by decide +kernel
theorem dX7_readLine_126 : decode cX7_readLine 126 = .ok (.iastore, 1) := by decide +kernel
theorem dX7_readLine_127 : decode cX7_readLine 127 = .ok (.iconst 1, 1) := by decide +kernel
theorem dX7_readLine_128 : decode cX7_readLine 128 = .ok (.ireturn, 1) := by decide +kernel
def WX7_readLine (E : ENV) (q0 : Nat) (q0_hold : Nat) (q0_below : Nat) (q0_hay : Nat) (q1 : Nat) (q1_signs : Nat) (i_houses : Int32) (a_hold : Nat → Int32) (a_below : Nat → Int32) (a_hay : Nat → Int32) (i_p1_length : Int32) (i_p1_place : Int32) (i_p1_limit : Int32) (a_p1_signs : Nat → Int32) : va_W := [(q0, .inr (7, [.ref q0_hold, .ref q0_below, .ref q0_hay, .int i_houses])), (q0_hold, .inl (E.2.1, 7, .inl a_hold)), (q0_below, .inl (E.2.1, 14, .inl a_below)), (q0_hay, .inl (E.2.1, 7, .inl a_hay)), (q1, .inr (6, [.ref q1_signs, .int i_p1_length, .int i_p1_place, .int i_p1_limit])), (q1_signs, .inl (E.2.1, 80, .inl a_p1_signs))]
set_option maxHeartbeats 4000000 in
set_option maxRecDepth 20000 in
theorem kX7_readLine (l : Launch) (E : ENV) (q0 : Nat) (q0_hold : Nat) (q0_below : Nat) (q0_hay : Nat) (q1 : Nat) (q1_signs : Nat) (i_houses : Int32) (a_hold : Nat → Int32) (a_below : Nat → Int32) (a_hay : Nat → Int32) (i_p1_length : Int32) (i_p1_place : Int32) (i_p1_limit : Int32) (a_p1_signs : Nat → Int32) (p2 : Int32) (r9 : Int32) (a_hold9 : Nat → Int32) (a_below9 : Nat → Int32) (a_hay9 : Nat → Int32) (i_p1_place9 : Int32) (hf : fX7_readLine a_hold a_below a_hay i_p1_place i_p1_limit a_p1_signs p2 = some (r9, a_hold9, a_below9, a_hay9, i_p1_place9)) : CI l E yX7_readLine cX7_readLine 7 (some .boolean) 4 [.ref q0, .ref q1, .int p2] (WX7_readLine E q0 q0_hold q0_below q0_hay q1 q1_signs i_houses a_hold a_below a_hay i_p1_length i_p1_place i_p1_limit a_p1_signs) (WX7_readLine E q0 q0_hold q0_below q0_hay q1 q1_signs i_houses a_hold9 a_below9 a_hay9 i_p1_length i_p1_place9 i_p1_limit a_p1_signs) r9 := by
  refine begI (by decide +kernel) (Nat.le_of_ble_eq_true rfl) ?_
  intro p e s m args below meth c A Q C hA hret
  have hx := C.1
  have hb := C.2.1
  have J81 : ∀ (v3 : Int32) (v4 : Int32) (v5 : Int32) (s0 : Int32) (a_hold : Nat → Int32) (a_below : Nat → Int32) (a_hay : Nat → Int32) (i_p1_place : Int32), fX7_readLine_J81 p2 v3 v4 v5 s0 a_hold a_below a_hay i_p1_place = some (r9, a_hold9, a_below9, a_hay9, i_p1_place9) → GO p l e 4 s m args below meth c Q E A 7 81 [.int s0] [(0, .ref q0), (2, .int p2), (3, .int v3), (4, .int v4), (5, .int v5)] (WX7_readLine E q0 q0_hold q0_below q0_hay q1 q1_signs i_houses a_hold a_below a_hay i_p1_length i_p1_place i_p1_limit a_p1_signs) := by
    intro v3 v4 v5 s0 a_hold a_below a_hay i_p1_place hf H locs ls hl hP hD hS
    unfold fX7_readLine_J81 at hf
    refine lv_istore (lv' := [(6, .int s0), (0, .ref q0), (2, .int p2), (3, .int v3), (4, .int v4), (5, .int v5)]) hx hb dX7_readLine_81 hl (by decide) rfl (fun ls hl => ?_)
    refine lv_iload hx hb dX7_readLine_83 (lv_at hl 0 rfl) ?_
    refine lv_if_ge (tgt := 90) hx hb dX7_readLine_85 (by decide) (fun c17 => ?_) (fun c17 => ?_)
    · rw [if_pos c17] at hf
      refine lv_aload_n hx hb dX7_readLine_90 rfl (lv_at hl 1 rfl) ?_
      refine gf_RX7_9 C hP 0 rfl rfl dX7_readLine_91 ?_
      refine lv_iload_n hx hb dX7_readLine_94 rfl (lv_at hl 2 rfl) ?_
      refine lv_iload_n hx hb dX7_readLine_95 rfl (lv_at hl 3 rfl) ?_
      obtain ⟨g18, hf⟩ := gd_some hf
      refine va_iast hx hb C.2.2.2.2.2.1 hP hD hS 1 0 rfl rfl (vin_in g18) dX7_readLine_96 (fun H locs hP hD hS => ?_)
      have hP : va_P E.1 classes (WX7_readLine E q0 q0_hold q0_below q0_hay q1 q1_signs i_houses ((upd a_hold (p2 : Int32).toNatClampNeg v3)) a_below a_hay i_p1_length i_p1_place i_p1_limit a_p1_signs) H := hP
      have hD : va_D A (WX7_readLine E q0 q0_hold q0_below q0_hay q1 q1_signs i_houses ((upd a_hold (p2 : Int32).toNatClampNeg v3)) a_below a_hay i_p1_length i_p1_place i_p1_limit a_p1_signs) := hD
      refine lv_aload_n hx hb dX7_readLine_97 rfl (lv_at hl 1 rfl) ?_
      refine gf_RX7_15 C hP 0 rfl rfl dX7_readLine_98 ?_
      refine lv_iconst (v := 2) hx hb dX7_readLine_101 (by decide) ?_
      refine lv_iload_n hx hb dX7_readLine_102 rfl (lv_at hl 2 rfl) ?_
      refine lv_imul hx hb dX7_readLine_103 ?_
      refine lv_iload hx hb dX7_readLine_104 (lv_at hl 4 rfl) ?_
      obtain ⟨g19, hf⟩ := gd_some hf
      refine va_iast hx hb C.2.2.2.2.2.1 hP hD hS 2 0 rfl rfl (vin_in g19) dX7_readLine_106 (fun H locs hP hD hS => ?_)
      have hP : va_P E.1 classes (WX7_readLine E q0 q0_hold q0_below q0_hay q1 q1_signs i_houses ((upd a_hold (p2 : Int32).toNatClampNeg v3)) ((upd a_below ((2 * p2) : Int32).toNatClampNeg v4)) a_hay i_p1_length i_p1_place i_p1_limit a_p1_signs) H := hP
      have hD : va_D A (WX7_readLine E q0 q0_hold q0_below q0_hay q1 q1_signs i_houses ((upd a_hold (p2 : Int32).toNatClampNeg v3)) ((upd a_below ((2 * p2) : Int32).toNatClampNeg v4)) a_hay i_p1_length i_p1_place i_p1_limit a_p1_signs) := hD
      refine lv_aload_n hx hb dX7_readLine_107 rfl (lv_at hl 1 rfl) ?_
      refine gf_RX7_15 C hP 0 rfl rfl dX7_readLine_108 ?_
      refine lv_iconst (v := 2) hx hb dX7_readLine_111 (by decide) ?_
      refine lv_iload_n hx hb dX7_readLine_112 rfl (lv_at hl 2 rfl) ?_
      refine lv_imul hx hb dX7_readLine_113 ?_
      refine lv_iconst (v := 1) hx hb dX7_readLine_114 (by decide) ?_
      refine lv_iadd hx hb dX7_readLine_115 ?_
      refine lv_iload hx hb dX7_readLine_116 (lv_at hl 5 rfl) ?_
      obtain ⟨g20, hf⟩ := gd_some hf
      refine va_iast hx hb C.2.2.2.2.2.1 hP hD hS 2 0 rfl rfl (vin_in g20) dX7_readLine_118 (fun H locs hP hD hS => ?_)
      have hP : va_P E.1 classes (WX7_readLine E q0 q0_hold q0_below q0_hay q1 q1_signs i_houses ((upd a_hold (p2 : Int32).toNatClampNeg v3)) ((upd ((upd a_below ((2 * p2) : Int32).toNatClampNeg v4)) ((((2 * p2)) + 1) : Int32).toNatClampNeg v5)) a_hay i_p1_length i_p1_place i_p1_limit a_p1_signs) H := hP
      have hD : va_D A (WX7_readLine E q0 q0_hold q0_below q0_hay q1 q1_signs i_houses ((upd a_hold (p2 : Int32).toNatClampNeg v3)) ((upd ((upd a_below ((2 * p2) : Int32).toNatClampNeg v4)) ((((2 * p2)) + 1) : Int32).toNatClampNeg v5)) a_hay i_p1_length i_p1_place i_p1_limit a_p1_signs) := hD
      refine lv_aload_n hx hb dX7_readLine_119 rfl (lv_at hl 1 rfl) ?_
      refine gf_RX7_18 C hP 0 rfl rfl dX7_readLine_120 ?_
      refine lv_iload_n hx hb dX7_readLine_123 rfl (lv_at hl 2 rfl) ?_
      refine lv_iload hx hb dX7_readLine_124 (lv_at hl 0 rfl) ?_
      obtain ⟨g21, hf⟩ := gd_some hf
      refine va_iast hx hb C.2.2.2.2.2.1 hP hD hS 3 0 rfl rfl (vin_in g21) dX7_readLine_126 (fun H locs hP hD hS => ?_)
      have hP : va_P E.1 classes (WX7_readLine E q0 q0_hold q0_below q0_hay q1 q1_signs i_houses ((upd a_hold (p2 : Int32).toNatClampNeg v3)) ((upd ((upd a_below ((2 * p2) : Int32).toNatClampNeg v4)) ((((2 * p2)) + 1) : Int32).toNatClampNeg v5)) ((upd a_hay (p2 : Int32).toNatClampNeg s0)) i_p1_length i_p1_place i_p1_limit a_p1_signs) H := hP
      have hD : va_D A (WX7_readLine E q0 q0_hold q0_below q0_hay q1 q1_signs i_houses ((upd a_hold (p2 : Int32).toNatClampNeg v3)) ((upd ((upd a_below ((2 * p2) : Int32).toNatClampNeg v4)) ((((2 * p2)) + 1) : Int32).toNatClampNeg v5)) ((upd a_hay (p2 : Int32).toNatClampNeg s0)) i_p1_length i_p1_place i_p1_limit a_p1_signs) := hD
      refine lv_iconst (v := 1) hx hb dX7_readLine_127 (by decide) ?_
      have hj0 := Option.some.inj hf
      obtain ⟨ha0, hj1⟩ := Prod.mk.inj hj0
      obtain ⟨ha1, hj2⟩ := Prod.mk.inj hj1
      obtain ⟨ha2, hj3⟩ := Prod.mk.inj hj2
      obtain ⟨ha3, hj4⟩ := Prod.mk.inj hj3
      subst ha0
      subst ha1
      subst ha2
      subst ha3
      subst hj4
      exact hret _ _ _ _ dX7_readLine_128 rfl hP hD hS
    · rw [if_neg c17] at hf
      refine lv_iconst (v := 0) hx hb dX7_readLine_88 (by decide) ?_
      have hj0 := Option.some.inj hf
      obtain ⟨ha0, hj1⟩ := Prod.mk.inj hj0
      obtain ⟨ha1, hj2⟩ := Prod.mk.inj hj1
      obtain ⟨ha2, hj3⟩ := Prod.mk.inj hj2
      obtain ⟨ha3, hj4⟩ := Prod.mk.inj hj3
      subst ha0
      subst ha1
      subst ha2
      subst ha3
      subst hj4
      exact hret _ _ _ _ dX7_readLine_89 rfl hP hD hS
  have J54 : ∀ (v3 : Int32) (v4 : Int32) (s0 : Int32) (a_hold : Nat → Int32) (a_below : Nat → Int32) (a_hay : Nat → Int32) (i_p1_place : Int32), fX7_readLine_J54 i_p1_limit a_p1_signs p2 v3 v4 s0 a_hold a_below a_hay i_p1_place = some (r9, a_hold9, a_below9, a_hay9, i_p1_place9) → GO p l e 4 s m args below meth c Q E A 7 54 [.int s0] [(0, .ref q0), (1, .ref q1), (2, .int p2), (3, .int v3), (4, .int v4)] (WX7_readLine E q0 q0_hold q0_below q0_hay q1 q1_signs i_houses a_hold a_below a_hay i_p1_length i_p1_place i_p1_limit a_p1_signs) := by
    intro v3 v4 s0 a_hold a_below a_hay i_p1_place hf H locs ls hl hP hD hS
    unfold fX7_readLine_J54 at hf
    refine lv_istore (lv' := [(5, .int s0), (0, .ref q0), (1, .ref q1), (2, .int p2), (3, .int v3), (4, .int v4)]) hx hb dX7_readLine_54 hl (by decide) rfl (fun ls hl => ?_)
    refine lv_iload hx hb dX7_readLine_56 (lv_at hl 0 rfl) ?_
    refine lv_if_ge (tgt := 63) hx hb dX7_readLine_58 (by decide) (fun c13 => ?_) (fun c13 => ?_)
    · rw [if_pos c13] at hf
      refine lv_aload_n hx hb dX7_readLine_63 rfl (lv_at hl 2 rfl) ?_
      refine lv_bipush (v := 42) hx hb dX7_readLine_64 (by decide) ?_
      obtain ⟨o14, hg15, hf⟩ := bd_some hf
      refine k_VI (As := [.int 42]) C K_RX7_47 (Nat.le_of_ble_eq_true rfl) (Nat.le_of_ble_eq_true rfl) (kX6_take l E q1 q1_signs i_p1_length i_p1_place i_p1_limit a_p1_signs 42 o14.1 o14.2 hg15) [4, 5] rfl rfl rfl (ci := 6) rfl rfl (q0 := 0) rfl hP hD hS hA hl.1 (Nat.le_of_ble_eq_true rfl) rfl dX7_readLine_66 (fun H locs hP hD hS => ?_)
      have hP : va_P E.1 classes (WX7_readLine E q0 q0_hold q0_below q0_hay q1 q1_signs i_houses a_hold a_below a_hay i_p1_length o14.2 i_p1_limit a_p1_signs) H := hP
      have hD : va_D A (WX7_readLine E q0 q0_hold q0_below q0_hay q1 q1_signs i_houses a_hold a_below a_hay i_p1_length o14.2 i_p1_limit a_p1_signs) := hD
      refine lv_if_eq (tgt := 80) hx hb dX7_readLine_69 (by decide) (fun c16 => ?_) (fun c16 => ?_)
      · rw [if_pos c16] at hf
        refine lv_iconst (v := 0) hx hb dX7_readLine_80 (by decide) ?_
        exact J81 v3 v4 s0 0 a_hold a_below a_hay o14.2 hf _ _ _ (lv_sub hl [1, 3, 4, 5, 0] rfl) hP hD hS
      · rw [if_neg c16] at hf
        refine lv_aload_n hx hb dX7_readLine_72 rfl (lv_at hl 1 rfl) ?_
        refine lv_aload_n hx hb dX7_readLine_73 rfl (lv_at hl 2 rfl) ?_
        obtain ⟨o22, hg23, hf⟩ := bd_some hf
        refine k_VI (As := [.ref q1]) C K_RX7_64 (Nat.le_of_ble_eq_true rfl) (Nat.le_of_ble_eq_true rfl) (kX7_readHay l E q0 q0_hold q0_below q0_hay q1 q1_signs i_houses i_p1_length o14.2 i_p1_limit a_p1_signs o22.1 o22.2 hg23) [0, 4, 5] rfl rfl rfl (ci := 7) rfl rfl (q0 := 0) rfl hP hD hS hA hl.1 (Nat.le_of_ble_eq_true rfl) rfl dX7_readLine_74 (fun H locs hP hD hS => ?_)
        have hP : va_P E.1 classes (WX7_readLine E q0 q0_hold q0_below q0_hay q1 q1_signs i_houses a_hold a_below a_hay i_p1_length o22.2 i_p1_limit a_p1_signs) H := hP
        have hD : va_D A (WX7_readLine E q0 q0_hold q0_below q0_hay q1 q1_signs i_houses a_hold a_below a_hay i_p1_length o22.2 i_p1_limit a_p1_signs) := hD
        refine lv_goto (tgt := 81) hx hb dX7_readLine_77 (by decide) ?_
        exact J81 v3 v4 s0 o22.1 a_hold a_below a_hay o22.2 hf _ _ _ (lv_sub hl [1, 3, 4, 5, 0] rfl) hP hD hS
    · rw [if_neg c13] at hf
      refine lv_iconst (v := 0) hx hb dX7_readLine_61 (by decide) ?_
      have hj0 := Option.some.inj hf
      obtain ⟨ha0, hj1⟩ := Prod.mk.inj hj0
      obtain ⟨ha1, hj2⟩ := Prod.mk.inj hj1
      obtain ⟨ha2, hj3⟩ := Prod.mk.inj hj2
      obtain ⟨ha3, hj4⟩ := Prod.mk.inj hj3
      subst ha0
      subst ha1
      subst ha2
      subst ha3
      subst hj4
      exact hret _ _ _ _ dX7_readLine_62 rfl hP hD hS
  have J14 : ∀ (v3 : Int32) (a_hold : Nat → Int32) (a_below : Nat → Int32) (a_hay : Nat → Int32) (i_p1_place : Int32), fX7_readLine_J14 i_p1_limit a_p1_signs p2 v3 a_hold a_below a_hay i_p1_place = some (r9, a_hold9, a_below9, a_hay9, i_p1_place9) → GO p l e 4 s m args below meth c Q E A 7 14 [] [(0, .ref q0), (1, .ref q1), (2, .int p2), (3, .int v3)] (WX7_readLine E q0 q0_hold q0_below q0_hay q1 q1_signs i_houses a_hold a_below a_hay i_p1_length i_p1_place i_p1_limit a_p1_signs) := by
    intro v3 a_hold a_below a_hay i_p1_place hf H locs ls hl hP hD hS
    unfold fX7_readLine_J14 at hf
    refine lv_iload_n hx hb dX7_readLine_14 rfl (lv_at hl 3 rfl) ?_
    refine lv_if_le (tgt := 27) hx hb dX7_readLine_15 (by decide) (fun c4 => ?_) (fun c4 => ?_)
    · rw [if_pos c4] at hf
      refine lv_iconst (v := 0) hx hb dX7_readLine_27 (by decide) ?_
      have hj0 := Option.some.inj hf
      obtain ⟨ha0, hj1⟩ := Prod.mk.inj hj0
      obtain ⟨ha1, hj2⟩ := Prod.mk.inj hj1
      obtain ⟨ha2, hj3⟩ := Prod.mk.inj hj2
      obtain ⟨ha3, hj4⟩ := Prod.mk.inj hj3
      subst ha0
      subst ha1
      subst ha2
      subst ha3
      subst hj4
      exact hret _ _ _ _ dX7_readLine_28 rfl hP hD hS
    · rw [if_neg c4] at hf
      refine lv_aload_n hx hb dX7_readLine_18 rfl (lv_at hl 1 rfl) ?_
      refine lv_bipush (v := 44) hx hb dX7_readLine_19 (by decide) ?_
      obtain ⟨o5, hg6, hf⟩ := bd_some hf
      refine k_VI (As := [.int 44]) C K_RX7_47 (Nat.le_of_ble_eq_true rfl) (Nat.le_of_ble_eq_true rfl) (kX6_take l E q1 q1_signs i_p1_length i_p1_place i_p1_limit a_p1_signs 44 o5.1 o5.2 hg6) [4, 5] rfl rfl rfl (ci := 6) rfl rfl (q0 := 0) rfl hP hD hS hA hl.1 (Nat.le_of_ble_eq_true rfl) rfl dX7_readLine_21 (fun H locs hP hD hS => ?_)
      have hP : va_P E.1 classes (WX7_readLine E q0 q0_hold q0_below q0_hay q1 q1_signs i_houses a_hold a_below a_hay i_p1_length o5.2 i_p1_limit a_p1_signs) H := hP
      have hD : va_D A (WX7_readLine E q0 q0_hold q0_below q0_hay q1 q1_signs i_houses a_hold a_below a_hay i_p1_length o5.2 i_p1_limit a_p1_signs) := hD
      refine lv_if_ne (tgt := 29) hx hb dX7_readLine_24 (by decide) (fun c7 => ?_) (fun c7 => ?_)
      · rw [if_neg c7] at hf
        refine lv_aload_n hx hb dX7_readLine_29 rfl (lv_at hl 1 rfl) ?_
        refine lv_iconst (v := 0) hx hb dX7_readLine_30 (by decide) ?_
        refine lv_bipush (v := 6) hx hb dX7_readLine_31 (by decide) ?_
        obtain ⟨o8, hg9, hf⟩ := bd_some hf
        refine k_VI (As := [.int 0, .int 6]) C K_RX7_60 (Nat.le_of_ble_eq_true rfl) (Nat.le_of_ble_eq_true rfl) (kX6_takeDigit l E q1 q1_signs i_p1_length o5.2 i_p1_limit a_p1_signs 0 6 o8.1 o8.2 hg9) [4, 5] rfl rfl rfl (ci := 6) rfl rfl (q0 := 0) rfl hP hD hS hA hl.1 (Nat.le_of_ble_eq_true rfl) rfl dX7_readLine_33 (fun H locs hP hD hS => ?_)
        have hP : va_P E.1 classes (WX7_readLine E q0 q0_hold q0_below q0_hay q1 q1_signs i_houses a_hold a_below a_hay i_p1_length o8.2 i_p1_limit a_p1_signs) H := hP
        have hD : va_D A (WX7_readLine E q0 q0_hold q0_below q0_hay q1 q1_signs i_houses a_hold a_below a_hay i_p1_length o8.2 i_p1_limit a_p1_signs) := hD
        refine lv_istore (lv' := [(4, .int o8.1), (0, .ref q0), (1, .ref q1), (2, .int p2), (3, .int v3)]) hx hb dX7_readLine_36 hl (by decide) rfl (fun ls hl => ?_)
        refine lv_iload hx hb dX7_readLine_38 (lv_at hl 0 rfl) ?_
        refine lv_if_ge (tgt := 47) hx hb dX7_readLine_40 (by decide) (fun c10 => ?_) (fun c10 => ?_)
        · rw [if_pos c10] at hf
          refine lv_aload_n hx hb dX7_readLine_47 rfl (lv_at hl 2 rfl) ?_
          refine lv_iconst (v := 0) hx hb dX7_readLine_48 (by decide) ?_
          refine lv_bipush (v := 6) hx hb dX7_readLine_49 (by decide) ?_
          obtain ⟨o11, hg12, hf⟩ := bd_some hf
          refine k_VI (As := [.int 0, .int 6]) C K_RX7_60 (Nat.le_of_ble_eq_true rfl) (Nat.le_of_ble_eq_true rfl) (kX6_takeDigit l E q1 q1_signs i_p1_length o8.2 i_p1_limit a_p1_signs 0 6 o11.1 o11.2 hg12) [4, 5] rfl rfl rfl (ci := 6) rfl rfl (q0 := 0) rfl hP hD hS hA hl.1 (Nat.le_of_ble_eq_true rfl) rfl dX7_readLine_51 (fun H locs hP hD hS => ?_)
          have hP : va_P E.1 classes (WX7_readLine E q0 q0_hold q0_below q0_hay q1 q1_signs i_houses a_hold a_below a_hay i_p1_length o11.2 i_p1_limit a_p1_signs) H := hP
          have hD : va_D A (WX7_readLine E q0 q0_hold q0_below q0_hay q1 q1_signs i_houses a_hold a_below a_hay i_p1_length o11.2 i_p1_limit a_p1_signs) := hD
          exact J54 v3 o8.1 o11.1 a_hold a_below a_hay o11.2 hf _ _ _ (lv_sub hl [1, 2, 3, 4, 0] rfl) hP hD hS
        · rw [if_neg c10] at hf
          refine lv_iconst (v := (-1)) hx hb dX7_readLine_43 (by decide) ?_
          refine lv_goto (tgt := 54) hx hb dX7_readLine_44 (by decide) ?_
          exact J54 v3 o8.1 ((-1)) a_hold a_below a_hay o8.2 hf _ _ _ (lv_sub hl [1, 2, 3, 4, 0] rfl) hP hD hS
      · rw [if_pos c7] at hf
        refine lv_iconst (v := 0) hx hb dX7_readLine_27 (by decide) ?_
        have hj0 := Option.some.inj hf
        obtain ⟨ha0, hj1⟩ := Prod.mk.inj hj0
        obtain ⟨ha1, hj2⟩ := Prod.mk.inj hj1
        obtain ⟨ha2, hj3⟩ := Prod.mk.inj hj2
        obtain ⟨ha3, hj4⟩ := Prod.mk.inj hj3
        subst ha0
        subst ha1
        subst ha2
        subst ha3
        subst hj4
        exact hret _ _ _ _ dX7_readLine_28 rfl hP hD hS
  intro H locs ls hl hP hD hS
  have hl : lv_has ls 7 [(0, .ref q0), (1, .ref q1), (2, .int p2)] := hl
  unfold fX7_readLine at hf
  refine lv_aload_n hx hb dX7_readLine_0 rfl (lv_at hl 1 rfl) ?_
  refine lv_iconst (v := 2) hx hb dX7_readLine_1 (by decide) ?_
  obtain ⟨o1, hg2, hf⟩ := bd_some hf
  refine k_VI (As := [.int 2]) C K_RX7_54 (Nat.le_of_ble_eq_true rfl) (Nat.le_of_ble_eq_true rfl) (kX6_takeNumber l E q1 q1_signs i_p1_length i_p1_place i_p1_limit a_p1_signs 2 o1.1 o1.2 hg2) [4, 5] rfl rfl rfl (ci := 6) rfl rfl (q0 := 0) rfl hP hD hS hA hl.1 (Nat.le_of_ble_eq_true rfl) rfl dX7_readLine_2 (fun H locs hP hD hS => ?_)
  have hP : va_P E.1 classes (WX7_readLine E q0 q0_hold q0_below q0_hay q1 q1_signs i_houses a_hold a_below a_hay i_p1_length o1.2 i_p1_limit a_p1_signs) H := hP
  have hD : va_D A (WX7_readLine E q0 q0_hold q0_below q0_hay q1 q1_signs i_houses a_hold a_below a_hay i_p1_length o1.2 i_p1_limit a_p1_signs) := hD
  refine lv_istore_n (lv' := [(3, .int o1.1), (0, .ref q0), (1, .ref q1), (2, .int p2)]) hx hb dX7_readLine_5 rfl hl (by decide) rfl (fun ls hl => ?_)
  refine lv_iload_n hx hb dX7_readLine_6 rfl (lv_at hl 0 rfl) ?_
  refine lv_if_ne (tgt := 14) hx hb dX7_readLine_7 (by decide) (fun c3 => ?_) (fun c3 => ?_)
  · rw [if_neg c3] at hf
    exact J14 o1.1 a_hold a_below a_hay o1.2 hf _ _ _ (lv_sub hl [1, 2, 3, 0] rfl) hP hD hS
  · rw [if_pos c3] at hf
    refine lv_aload_n hx hb dX7_readLine_10 rfl (lv_at hl 2 rfl) ?_
    obtain ⟨o24, hg25, hf⟩ := bd_some hf
    refine k_VV (As := []) C K_RX7_57 (Nat.le_of_ble_eq_true rfl) (Nat.le_of_ble_eq_true rfl) (kX6_stepBack l E q1 q1_signs i_p1_length o1.2 i_p1_limit o24 hg25) [4] rfl rfl rfl (ci := 6) rfl rfl (q0 := 0) rfl hP hD hS hA hl.1 (Nat.le_of_ble_eq_true rfl) rfl dX7_readLine_11 (fun H locs hP hD hS => ?_)
    have hP : va_P E.1 classes (WX7_readLine E q0 q0_hold q0_below q0_hay q1 q1_signs i_houses a_hold a_below a_hay i_p1_length o24 i_p1_limit a_p1_signs) H := hP
    have hD : va_D A (WX7_readLine E q0 q0_hold q0_below q0_hay q1 q1_signs i_houses a_hold a_below a_hay i_p1_length o24 i_p1_limit a_p1_signs) := hD
    exact J14 o1.1 a_hold a_below a_hay o24 hf _ _ _ (lv_sub hl [1, 2, 3, 0] rfl) hP hD hS
theorem pf_RX7_21 {p : Program} {l : Launch} {e : Env} {R : Room} {s : State} {m : MethodId} {args : Array Value} {below : List Frame} {meth : Method} {c : Code} {H : Heap} {locs : List Loc} {cells slots : Nat} {Q : State → Prop} {E : ENV} {cc : ByteArray} {n : Nat} {r : Option FieldType} {pc : Nat} {ls : Array Slot} {rest : List Value} {a : Nat} {ws : va_W} {nm ds : String} {fs : List Value} {A : Nat → Prop} {H0 : Heap} {x : Int32} (C : Cx E A ⟨RX7, nm, ds⟩ cc n r p s m args meth c) (hP : va_P E.1 classes ws H) (hD : va_D A ws) (hS : va_S A H0 H locs) (q0 : Nat) (he : ws[q0]? = some (a, .inr (7, fs))) (hl : 3 < fs.length) (hdg : decode cc pc = .ok (.putfield 21, 3))
    (kk : ∀ (H1 : Heap) (locs1 : List Loc), va_P E.1 classes (ws.set q0 (a, .inr (7, fs.set 3 (.int x)))) H1 → va_D A (ws.set q0 (a, .inr (7, fs.set 3 (.int x)))) → va_S A H0 H1 locs1 → W p l e R s m args below meth c H1 locs1 cells slots Q (F0 m (pc + 3) ls rest)) : W p l e R s m args below meth c H locs cells slots Q (F0 m pc ls (.int x :: .ref a :: rest)) :=
  va_put (C := RX7) (T := TX7) (N := 4) (ty := .int) (Ts := wl ⟨RX7, nm, ds⟩ cc n r) C.1 C.2.1 C.2.2.2.2.1 (fun w h => List.mem_cons_of_mem _ (inT7 w h)) tyX7 tyX7_ok nmX7 C.2.2.2.1 C.2.2.2.2.2.1 hP hD hS q0 he rfl 3 (by decide) (C.2.2.2.2.1 _ (List.mem_cons_of_mem _ q159)) (fun _ h9 => h9) rfl (by decide +kernel) rfl rfl hl hdg kk
theorem dX7_growTo_0 : decode cX7_growTo 0 = .ok (.iload_n 1, 1) := by decide +kernel
theorem dX7_growTo_1 : decode cX7_growTo 1 = .ok (.aload_n 0, 1) := by decide +kernel
theorem dX7_growTo_2 : decode cX7_growTo 2 = .ok (.getfield 21, 3) := by decide +kernel
theorem dX7_growTo_5 : decode cX7_growTo 5 = .ok (.isub, 1) := by decide +kernel
theorem dX7_growTo_6 : decode cX7_growTo 6 = .ok (.istore_n 2, 1) := by decide +kernel
theorem dX7_growTo_7 : decode cX7_growTo 7 = .ok (.aload_n 0, 1) := by decide +kernel
theorem dX7_growTo_8 : decode cX7_growTo 8 = .ok (.iload_n 1, 1) := by decide +kernel
theorem dX7_growTo_9 : decode cX7_growTo 9 = .ok (.putfield 21, 3) := by decide +kernel
theorem dX7_growTo_12 : decode cX7_growTo 12 = .ok (.iload_n 2, 1) := by decide +kernel
theorem dX7_growTo_13 : decode cX7_growTo 13 = .ok (.ireturn, 1) := by decide +kernel
def WX7_growTo (E : ENV) (q0 : Nat) (q0_hold : Nat) (q0_below : Nat) (q0_hay : Nat) (i_houses : Int32) : va_W := [(q0, .inr (7, [.ref q0_hold, .ref q0_below, .ref q0_hay, .int i_houses]))]
set_option maxHeartbeats 4000000 in
set_option maxRecDepth 20000 in
theorem kX7_growTo (l : Launch) (E : ENV) (q0 : Nat) (q0_hold : Nat) (q0_below : Nat) (q0_hay : Nat) (i_houses : Int32) (p1 : Int32) (r9 : Int32) (i_houses9 : Int32) (hf : fX7_growTo i_houses p1 = some (r9, i_houses9)) : CI l E yX7_growTo cX7_growTo 3 (some .int) 0 [.ref q0, .int p1] (WX7_growTo E q0 q0_hold q0_below q0_hay i_houses) (WX7_growTo E q0 q0_hold q0_below q0_hay i_houses9) r9 := by
  refine begI (by decide +kernel) (Nat.le_of_ble_eq_true rfl) ?_
  intro p e s m args below meth c A Q C hA hret
  have hx := C.1
  have hb := C.2.1
  intro H locs ls hl hP hD hS
  have hl : lv_has ls 3 [(0, .ref q0), (1, .int p1)] := hl
  unfold fX7_growTo at hf
  refine lv_iload_n hx hb dX7_growTo_0 rfl (lv_at hl 1 rfl) ?_
  refine lv_aload_n hx hb dX7_growTo_1 rfl (lv_at hl 0 rfl) ?_
  refine gf_RX7_21 C hP 0 rfl rfl dX7_growTo_2 ?_
  refine lv_isub hx hb dX7_growTo_5 ?_
  refine lv_istore_n (lv' := [(2, .int ((p1 - i_houses))), (0, .ref q0), (1, .int p1)]) hx hb dX7_growTo_6 rfl hl (by decide) rfl (fun ls hl => ?_)
  refine lv_aload_n hx hb dX7_growTo_7 rfl (lv_at hl 1 rfl) ?_
  refine lv_iload_n hx hb dX7_growTo_8 rfl (lv_at hl 2 rfl) ?_
  refine pf_RX7_21 C hP hD hS 0 rfl (Nat.le_of_ble_eq_true rfl) dX7_growTo_9 (fun H locs hP hD hS => ?_)
  have hP : va_P E.1 classes (WX7_growTo E q0 q0_hold q0_below q0_hay p1) H := hP
  have hD : va_D A (WX7_growTo E q0 q0_hold q0_below q0_hay p1) := hD
  refine lv_iload_n hx hb dX7_growTo_12 rfl (lv_at hl 0 rfl) ?_
  have hj0 := Option.some.inj hf
  obtain ⟨ha0, hj1⟩ := Prod.mk.inj hj0
  subst ha0
  subst hj1
  exact hret _ _ _ _ dX7_growTo_13 rfl hP hD hS
theorem K_RX7_29 : KV RX7 29 yX6_open cX6_open 2 none 1 := ⟨Tg_mem 488 (by decide +kernel) (by decide +kernel), Tg_mem 91 (by decide +kernel) (by decide +kernel), Tg_mem 485 (by decide +kernel) (by decide +kernel), Tg_mem 486 (by decide +kernel) (by decide +kernel), Tg_mem 487 (by decide +kernel) (by decide +kernel), by decide +kernel⟩
theorem K_RX7_35 : KV RX7 35 yX6_isThrough cX6_isThrough 1 (some .boolean) 0 := ⟨Tg_mem 495 (by decide +kernel) (by decide +kernel), Tg_mem 91 (by decide +kernel) (by decide +kernel), Tg_mem 492 (by decide +kernel) (by decide +kernel), Tg_mem 493 (by decide +kernel) (by decide +kernel), Tg_mem 494 (by decide +kernel) (by decide +kernel), by decide +kernel⟩
theorem K_RX7_39 : KV RX7 39 yX7_readLine cX7_readLine 7 (some .boolean) 2 := ⟨Tg_mem 499 (by decide +kernel) (by decide +kernel), Tg_mem 92 (by decide +kernel) (by decide +kernel), Tg_mem 496 (by decide +kernel) (by decide +kernel), Tg_mem 498 (by decide +kernel) (by decide +kernel), Tg_mem 0 (by decide +kernel) (by decide +kernel), by decide +kernel⟩
theorem K_RX7_43 : KV RX7 43 yX6_fault cX6_fault 1 (some .int) 0 := ⟨Tg_mem 528 (by decide +kernel) (by decide +kernel), Tg_mem 91 (by decide +kernel) (by decide +kernel), Tg_mem 525 (by decide +kernel) (by decide +kernel), Tg_mem 526 (by decide +kernel) (by decide +kernel), Tg_mem 527 (by decide +kernel) (by decide +kernel), by decide +kernel⟩
theorem K_RX7_50 : KV RX7 50 yX7_growTo cX7_growTo 3 (some .int) 1 := ⟨Tg_mem 532 (by decide +kernel) (by decide +kernel), Tg_mem 92 (by decide +kernel) (by decide +kernel), Tg_mem 529 (by decide +kernel) (by decide +kernel), Tg_mem 531 (by decide +kernel) (by decide +kernel), Tg_mem 2 (by decide +kernel) (by decide +kernel), by decide +kernel⟩
theorem dX7_read_0 : decode cX7_read 0 = .ok (.aload_n 1, 1) := by decide +kernel
theorem dX7_read_1 : decode cX7_read 1 = .ok (.bipush 76, 2) := by decide +kernel
theorem dX7_read_3 : decode cX7_read 3 = .ok (.invokevirtual 29, 3) := by decide +kernel
theorem dX7_read_6 : decode cX7_read 6 = .ok (.aload_n 1, 1) := by decide +kernel
theorem dX7_read_7 : decode cX7_read 7 = .ok (.invokevirtual 35, 3) := by decide +kernel
theorem dX7_read_10 : decode cX7_read 10 = .ok (.ifCond .eq 5, 3) := by decide +kernel
theorem dX7_read_13 : decode cX7_read 13 = .ok (.iconst 0, 1) := by decide +kernel
theorem dX7_read_14 : decode cX7_read 14 = .ok (.ireturn, 1) := by decide +kernel
theorem dX7_read_15 : decode cX7_read 15 = .ok (.aload_n 0, 1) := by decide +kernel
theorem dX7_read_16 : decode cX7_read 16 = .ok (.getfield 21, 3) := by decide +kernel
theorem dX7_read_19 : decode cX7_read 19 = .ok (.istore_n 2, 1) := by decide +kernel
theorem dX7_read_20 : decode cX7_read 20 = .ok (.iload_n 2, 1) := by decide +kernel
theorem dX7_read_21 : decode cX7_read 21 = .ok (.bipush 7, 2) := by decide +kernel
theorem dX7_read_23 : decode cX7_read 23 = .ok (.if_icmp .ge 54, 3) := by decide +kernel
theorem dX7_read_26 : decode cX7_read 26 = .ok (.aload_n 0, 1) := by decide +kernel
theorem dX7_read_27 : decode cX7_read 27 = .ok (.aload_n 1, 1) := by decide +kernel
theorem dX7_read_28 : decode cX7_read 28 = .ok (.iload_n 2, 1) := by decide +kernel
theorem dX7_read_29 : decode cX7_read 29 = .ok (.invokevirtual 39, 3) := by decide +kernel
theorem dX7_read_32 : decode cX7_read 32 = .ok (.ifCond .ne 8, 3) := by decide +kernel
theorem dX7_read_35 : decode cX7_read 35 = .ok (.aload_n 1, 1) := by decide +kernel
theorem dX7_read_36 : decode cX7_read 36 = .ok (.invokevirtual 43, 3) := by decide +kernel
theorem dX7_read_39 : decode cX7_read 39 = .ok (.ireturn, 1) := by decide +kernel
theorem dX7_read_40 : decode cX7_read 40 = .ok (.aload_n 1, 1) := by decide +kernel
theorem dX7_read_41 : decode cX7_read 41 = .ok (.bipush 59, 2) := by decide +kernel
theorem dX7_read_43 : decode cX7_read 43 = .ok (.invokevirtual 47, 3) := by decide +kernel
theorem dX7_read_46 : decode cX7_read 46 = .ok (.ifCond .ne 25, 3) := by decide +kernel
theorem dX7_read_49 : decode cX7_read 49 = .ok (.aload_n 1, 1) := by decide +kernel
theorem dX7_read_50 : decode cX7_read 50 = .ok (.invokevirtual 35, 3) := by decide +kernel
theorem dX7_read_53 : decode cX7_read 53 = .ok (.ifCond .eq 13, 3) := by decide +kernel
theorem dX7_read_56 : decode cX7_read 56 = .ok (.aload_n 0, 1) := by decide +kernel
theorem dX7_read_57 : decode cX7_read 57 = .ok (.iload_n 2, 1) := by decide +kernel
theorem dX7_read_58 : decode cX7_read 58 = .ok (.iconst 1, 1) := by decide +kernel
theorem dX7_read_59 : decode cX7_read 59 = .ok (.iadd, 1) := by decide +kernel
theorem dX7_read_60 : decode cX7_read 60 = .ok (.invokevirtual 50, 3) := by decide +kernel
theorem dX7_read_63 : decode cX7_read 63 = .ok (.goto 7, 3) := by decide +kernel
theorem dX7_read_66 : decode cX7_read 66 = .ok (.aload_n 1, 1) := by decide +kernel
theorem dX7_read_67 : decode cX7_read 67 = .ok (.invokevirtual 43, 3) := by decide +kernel
theorem dX7_read_70 : decode cX7_read 70 = .ok (.ireturn, 1) := by decide +kernel
theorem dX7_read_71 : decode cX7_read 71 = .ok (.iinc 2 1, 3) := by decide +kernel
theorem dX7_read_74 : decode cX7_read 74 = .ok (.goto (-54), 3) := by decide +kernel
theorem dX7_read_77 : decode cX7_read 77 = .ok (.aload_n 1, 1) := by decide +kernel
theorem dX7_read_78 : decode cX7_read 78 = .ok (.invokevirtual 43, 3) := by decide +kernel
theorem dX7_read_81 : decode cX7_read 81 = .ok (.ireturn, 1) := by decide +kernel
def WX7_read (E : ENV) (q0 : Nat) (q0_hold : Nat) (q0_below : Nat) (q0_hay : Nat) (q1 : Nat) (q1_signs : Nat) (i_houses : Int32) (a_hold : Nat → Int32) (a_below : Nat → Int32) (a_hay : Nat → Int32) (i_p1_length : Int32) (i_p1_place : Int32) (i_p1_limit : Int32) (a_p1_signs : Nat → Int32) : va_W := [(q0, .inr (7, [.ref q0_hold, .ref q0_below, .ref q0_hay, .int i_houses])), (q0_hold, .inl (E.2.1, 7, .inl a_hold)), (q0_below, .inl (E.2.1, 14, .inl a_below)), (q0_hay, .inl (E.2.1, 7, .inl a_hay)), (q1, .inr (6, [.ref q1_signs, .int i_p1_length, .int i_p1_place, .int i_p1_limit])), (q1_signs, .inl (E.2.1, 80, .inl a_p1_signs))]
set_option maxHeartbeats 4000000 in
set_option maxRecDepth 20000 in
theorem kX7_read (l : Launch) (E : ENV) (q0 : Nat) (q0_hold : Nat) (q0_below : Nat) (q0_hay : Nat) (q1 : Nat) (q1_signs : Nat) (i_houses : Int32) (a_hold : Nat → Int32) (a_below : Nat → Int32) (a_hay : Nat → Int32) (i_p1_length : Int32) (i_p1_place : Int32) (i_p1_limit : Int32) (a_p1_signs : Nat → Int32) (r9 : Int32) (i_houses9 : Int32) (a_hold9 : Nat → Int32) (a_below9 : Nat → Int32) (a_hay9 : Nat → Int32) (i_p1_place9 : Int32) (i_p1_limit9 : Int32) (hf : fX7_read i_houses a_hold a_below a_hay i_p1_length i_p1_place i_p1_limit a_p1_signs = some (r9, i_houses9, a_hold9, a_below9, a_hay9, i_p1_place9, i_p1_limit9)) : CI l E yX7_read cX7_read 3 (some .int) 5 [.ref q0, .ref q1] (WX7_read E q0 q0_hold q0_below q0_hay q1 q1_signs i_houses a_hold a_below a_hay i_p1_length i_p1_place i_p1_limit a_p1_signs) (WX7_read E q0 q0_hold q0_below q0_hay q1 q1_signs i_houses9 a_hold9 a_below9 a_hay9 i_p1_length i_p1_place9 i_p1_limit9 a_p1_signs) r9 := by
  refine begI (by decide +kernel) (Nat.le_of_ble_eq_true rfl) ?_
  intro p e s m args below meth c A Q C hA hret
  have hx := C.1
  have hb := C.2.1
  have L20 : ∀ (i_houses : Int32) (i_p1_limit : Int32), ∀ (n : Nat) (v2 : Int32) (a_hold : Nat → Int32) (a_below : Nat → Int32) (a_hay : Nat → Int32) (i_p1_place : Int32) (o : ((Nat → Int32) × (Nat → Int32) × (Nat → Int32) × Int32) ⊕ (Int32 × Int32 × (Nat → Int32) × (Nat → Int32) × (Nat → Int32) × Int32 × Int32)), fX7_read_L20 i_p1_length a_p1_signs i_houses i_p1_limit n v2 a_hold a_below a_hay i_p1_place = some o → (∀ x, o = Sum.inl x → GO p l e 5 s m args below meth c Q E A 3 77 [] [(1, .ref q1)] (WX7_read E q0 q0_hold q0_below q0_hay q1 q1_signs i_houses x.1 x.2.1 x.2.2.1 i_p1_length x.2.2.2 i_p1_limit a_p1_signs)) → (∀ x, o = Sum.inr x → x = (r9, i_houses9, a_hold9, a_below9, a_hay9, i_p1_place9, i_p1_limit9)) → GO p l e 5 s m args below meth c Q E A 3 20 [] [(0, .ref q0), (1, .ref q1), (2, .int v2)] (WX7_read E q0 q0_hold q0_below q0_hay q1 q1_signs i_houses a_hold a_below a_hay i_p1_length i_p1_place i_p1_limit a_p1_signs) := by
    intro i_houses i_p1_limit
    intro n
    induction n with
    | zero =>
      intro v2 a_hold a_below a_hay i_p1_place o hf
      have hf : none = some o := hf
      cases hf
    | succ n ih =>
      intro v2 a_hold a_below a_hay i_p1_place o hf hE hR
      intro H locs ls hl hP hD hS
      rw [fX7_read_L20] at hf
      refine lv_iload_n hx hb dX7_read_20 rfl (lv_at hl 2 rfl) ?_
      refine lv_bipush (v := 7) hx hb dX7_read_21 (by decide) ?_
      refine lv_icmp_ge (tgt := 77) hx hb dX7_read_23 (by decide) (fun c6 => ?_) (fun c6 => ?_)
      · rw [if_pos c6] at hf
        have hf := Option.some.inj hf
        subst hf
        exact (hE _ rfl) _ _ _ (lv_sub hl [1] rfl) hP hD hS
      · rw [if_neg c6] at hf
        refine lv_aload_n hx hb dX7_read_26 rfl (lv_at hl 0 rfl) ?_
        refine lv_aload_n hx hb dX7_read_27 rfl (lv_at hl 1 rfl) ?_
        refine lv_iload_n hx hb dX7_read_28 rfl (lv_at hl 2 rfl) ?_
        obtain ⟨o7, hg8, hf⟩ := bd_some hf
        refine k_VI (As := [.ref q1, .int v2]) C K_RX7_39 (Nat.le_of_ble_eq_true rfl) (Nat.le_of_ble_eq_true rfl) (kX7_readLine l E q0 q0_hold q0_below q0_hay q1 q1_signs i_houses a_hold a_below a_hay i_p1_length i_p1_place i_p1_limit a_p1_signs v2 o7.1 o7.2.1 o7.2.2.1 o7.2.2.2.1 o7.2.2.2.2 hg8) [0, 1, 2, 3, 4, 5] rfl rfl rfl (ci := 7) rfl rfl (q0 := 0) rfl hP hD hS hA hl.1 (Nat.le_of_ble_eq_true rfl) rfl dX7_read_29 (fun H locs hP hD hS => ?_)
        have hP : va_P E.1 classes (WX7_read E q0 q0_hold q0_below q0_hay q1 q1_signs i_houses o7.2.1 o7.2.2.1 o7.2.2.2.1 i_p1_length o7.2.2.2.2 i_p1_limit a_p1_signs) H := hP
        have hD : va_D A (WX7_read E q0 q0_hold q0_below q0_hay q1 q1_signs i_houses o7.2.1 o7.2.2.1 o7.2.2.2.1 i_p1_length o7.2.2.2.2 i_p1_limit a_p1_signs) := hD
        refine lv_if_ne (tgt := 40) hx hb dX7_read_32 (by decide) (fun c9 => ?_) (fun c9 => ?_)
        · rw [if_neg c9] at hf
          refine lv_aload_n hx hb dX7_read_40 rfl (lv_at hl 1 rfl) ?_
          refine lv_bipush (v := 59) hx hb dX7_read_41 (by decide) ?_
          obtain ⟨o10, hg11, hf⟩ := bd_some hf
          refine k_VI (As := [.int 59]) C K_RX7_47 (Nat.le_of_ble_eq_true rfl) (Nat.le_of_ble_eq_true rfl) (kX6_take l E q1 q1_signs i_p1_length o7.2.2.2.2 i_p1_limit a_p1_signs 59 o10.1 o10.2 hg11) [4, 5] rfl rfl rfl (ci := 6) rfl rfl (q0 := 0) rfl hP hD hS hA hl.1 (Nat.le_of_ble_eq_true rfl) rfl dX7_read_43 (fun H locs hP hD hS => ?_)
          have hP : va_P E.1 classes (WX7_read E q0 q0_hold q0_below q0_hay q1 q1_signs i_houses o7.2.1 o7.2.2.1 o7.2.2.2.1 i_p1_length o10.2 i_p1_limit a_p1_signs) H := hP
          have hD : va_D A (WX7_read E q0 q0_hold q0_below q0_hay q1 q1_signs i_houses o7.2.1 o7.2.2.1 o7.2.2.2.1 i_p1_length o10.2 i_p1_limit a_p1_signs) := hD
          refine lv_if_ne (tgt := 71) hx hb dX7_read_46 (by decide) (fun c12 => ?_) (fun c12 => ?_)
          · rw [if_neg c12] at hf
            refine lv_iinc (v := (v2 + 1)) (lv' := [(2, .int ((v2 + 1))), (0, .ref q0), (1, .ref q1)]) hx hb dX7_read_71 hl (k := 2) rfl rfl (by decide) rfl (fun ls hl => ?_)
            refine lv_goto (tgt := 20) hx hb dX7_read_74 (by decide) ?_
            exact ih ((v2 + 1)) o7.2.1 o7.2.2.1 o7.2.2.2.1 o10.2 _ hf hE hR _ _ _ (lv_sub hl [1, 2, 0] rfl) hP hD hS
          · rw [if_pos c12] at hf
            refine lv_aload_n hx hb dX7_read_49 rfl (lv_at hl 1 rfl) ?_
            obtain ⟨o13, hg14, hf⟩ := bd_some hf
            refine k_VI (As := []) C K_RX7_35 (Nat.le_of_ble_eq_true rfl) (Nat.le_of_ble_eq_true rfl) (kX6_isThrough l E q1 q1_signs i_p1_length o10.2 i_p1_limit o13 hg14) [4] rfl rfl rfl (ci := 6) rfl rfl (q0 := 0) rfl hP hD hS hA hl.1 (Nat.le_of_ble_eq_true rfl) rfl dX7_read_50 (fun H locs hP hD hS => ?_)
            have hP : va_P E.1 classes (WX7_read E q0 q0_hold q0_below q0_hay q1 q1_signs i_houses o7.2.1 o7.2.2.1 o7.2.2.2.1 i_p1_length o10.2 i_p1_limit a_p1_signs) H := hP
            have hD : va_D A (WX7_read E q0 q0_hold q0_below q0_hay q1 q1_signs i_houses o7.2.1 o7.2.2.1 o7.2.2.2.1 i_p1_length o10.2 i_p1_limit a_p1_signs) := hD
            refine lv_if_eq (tgt := 66) hx hb dX7_read_53 (by decide) (fun c15 => ?_) (fun c15 => ?_)
            · rw [if_pos c15] at hf
              refine lv_aload_n hx hb dX7_read_66 rfl (lv_at hl 1 rfl) ?_
              obtain ⟨o16, hg17, hf⟩ := bd_some hf
              refine k_VI (As := []) C K_RX7_43 (Nat.le_of_ble_eq_true rfl) (Nat.le_of_ble_eq_true rfl) (kX6_fault l E q1 q1_signs i_p1_length o10.2 i_p1_limit o16 hg17) [4] rfl rfl rfl (ci := 6) rfl rfl (q0 := 0) rfl hP hD hS hA hl.1 (Nat.le_of_ble_eq_true rfl) rfl dX7_read_67 (fun H locs hP hD hS => ?_)
              have hP : va_P E.1 classes (WX7_read E q0 q0_hold q0_below q0_hay q1 q1_signs i_houses o7.2.1 o7.2.2.1 o7.2.2.2.1 i_p1_length o10.2 i_p1_limit a_p1_signs) H := hP
              have hD : va_D A (WX7_read E q0 q0_hold q0_below q0_hay q1 q1_signs i_houses o7.2.1 o7.2.2.1 o7.2.2.2.1 i_p1_length o10.2 i_p1_limit a_p1_signs) := hD
              have hf := Option.some.inj hf
              subst hf
              have hj0 := hR _ rfl
              obtain ⟨ha0, hj1⟩ := Prod.mk.inj hj0
              obtain ⟨ha1, hj2⟩ := Prod.mk.inj hj1
              obtain ⟨ha2, hj3⟩ := Prod.mk.inj hj2
              obtain ⟨ha3, hj4⟩ := Prod.mk.inj hj3
              obtain ⟨ha4, hj5⟩ := Prod.mk.inj hj4
              obtain ⟨ha5, hj6⟩ := Prod.mk.inj hj5
              subst ha0
              subst ha1
              subst ha2
              subst ha3
              subst ha4
              subst ha5
              subst hj6
              exact hret _ _ _ _ dX7_read_70 rfl hP hD hS
            · rw [if_neg c15] at hf
              refine lv_aload_n hx hb dX7_read_56 rfl (lv_at hl 0 rfl) ?_
              refine lv_iload_n hx hb dX7_read_57 rfl (lv_at hl 2 rfl) ?_
              refine lv_iconst (v := 1) hx hb dX7_read_58 (by decide) ?_
              refine lv_iadd hx hb dX7_read_59 ?_
              obtain ⟨o18, hg19, hf⟩ := bd_some hf
              refine k_VI (As := [.int ((v2 + 1))]) C K_RX7_50 (Nat.le_of_ble_eq_true rfl) (Nat.le_of_ble_eq_true rfl) (kX7_growTo l E q0 q0_hold q0_below q0_hay i_houses ((v2 + 1)) o18.1 o18.2 hg19) [0] rfl rfl rfl (ci := 7) rfl rfl (q0 := 0) rfl hP hD hS hA hl.1 (Nat.le_of_ble_eq_true rfl) rfl dX7_read_60 (fun H locs hP hD hS => ?_)
              have hP : va_P E.1 classes (WX7_read E q0 q0_hold q0_below q0_hay q1 q1_signs o18.2 o7.2.1 o7.2.2.1 o7.2.2.2.1 i_p1_length o10.2 i_p1_limit a_p1_signs) H := hP
              have hD : va_D A (WX7_read E q0 q0_hold q0_below q0_hay q1 q1_signs o18.2 o7.2.1 o7.2.2.1 o7.2.2.2.1 i_p1_length o10.2 i_p1_limit a_p1_signs) := hD
              refine lv_goto (tgt := 70) hx hb dX7_read_63 (by decide) ?_
              have hf := Option.some.inj hf
              subst hf
              have hj0 := hR _ rfl
              obtain ⟨ha0, hj1⟩ := Prod.mk.inj hj0
              obtain ⟨ha1, hj2⟩ := Prod.mk.inj hj1
              obtain ⟨ha2, hj3⟩ := Prod.mk.inj hj2
              obtain ⟨ha3, hj4⟩ := Prod.mk.inj hj3
              obtain ⟨ha4, hj5⟩ := Prod.mk.inj hj4
              obtain ⟨ha5, hj6⟩ := Prod.mk.inj hj5
              subst ha0
              subst ha1
              subst ha2
              subst ha3
              subst ha4
              subst ha5
              subst hj6
              exact hret _ _ _ _ dX7_read_70 rfl hP hD hS
        · rw [if_pos c9] at hf
          refine lv_aload_n hx hb dX7_read_35 rfl (lv_at hl 1 rfl) ?_
          obtain ⟨o20, hg21, hf⟩ := bd_some hf
          refine k_VI (As := []) C K_RX7_43 (Nat.le_of_ble_eq_true rfl) (Nat.le_of_ble_eq_true rfl) (kX6_fault l E q1 q1_signs i_p1_length o7.2.2.2.2 i_p1_limit o20 hg21) [4] rfl rfl rfl (ci := 6) rfl rfl (q0 := 0) rfl hP hD hS hA hl.1 (Nat.le_of_ble_eq_true rfl) rfl dX7_read_36 (fun H locs hP hD hS => ?_)
          have hP : va_P E.1 classes (WX7_read E q0 q0_hold q0_below q0_hay q1 q1_signs i_houses o7.2.1 o7.2.2.1 o7.2.2.2.1 i_p1_length o7.2.2.2.2 i_p1_limit a_p1_signs) H := hP
          have hD : va_D A (WX7_read E q0 q0_hold q0_below q0_hay q1 q1_signs i_houses o7.2.1 o7.2.2.1 o7.2.2.2.1 i_p1_length o7.2.2.2.2 i_p1_limit a_p1_signs) := hD
          have hf := Option.some.inj hf
          subst hf
          have hj0 := hR _ rfl
          obtain ⟨ha0, hj1⟩ := Prod.mk.inj hj0
          obtain ⟨ha1, hj2⟩ := Prod.mk.inj hj1
          obtain ⟨ha2, hj3⟩ := Prod.mk.inj hj2
          obtain ⟨ha3, hj4⟩ := Prod.mk.inj hj3
          obtain ⟨ha4, hj5⟩ := Prod.mk.inj hj4
          obtain ⟨ha5, hj6⟩ := Prod.mk.inj hj5
          subst ha0
          subst ha1
          subst ha2
          subst ha3
          subst ha4
          subst ha5
          subst hj6
          exact hret _ _ _ _ dX7_read_39 rfl hP hD hS
  intro H locs ls hl hP hD hS
  have hl : lv_has ls 3 [(0, .ref q0), (1, .ref q1)] := hl
  unfold fX7_read at hf
  refine lv_aload_n hx hb dX7_read_0 rfl (lv_at hl 1 rfl) ?_
  refine lv_bipush (v := 76) hx hb dX7_read_1 (by decide) ?_
  obtain ⟨o1, hg2, hf⟩ := bd_some hf
  refine k_VV (As := [.int 76]) C K_RX7_29 (Nat.le_of_ble_eq_true rfl) (Nat.le_of_ble_eq_true rfl) (kX6_open l E q1 q1_signs i_p1_length i_p1_place i_p1_limit 76 o1.1 o1.2 hg2) [4] rfl rfl rfl (ci := 6) rfl rfl (q0 := 0) rfl hP hD hS hA hl.1 (Nat.le_of_ble_eq_true rfl) rfl dX7_read_3 (fun H locs hP hD hS => ?_)
  have hP : va_P E.1 classes (WX7_read E q0 q0_hold q0_below q0_hay q1 q1_signs i_houses a_hold a_below a_hay i_p1_length o1.1 o1.2 a_p1_signs) H := hP
  have hD : va_D A (WX7_read E q0 q0_hold q0_below q0_hay q1 q1_signs i_houses a_hold a_below a_hay i_p1_length o1.1 o1.2 a_p1_signs) := hD
  refine lv_aload_n hx hb dX7_read_6 rfl (lv_at hl 1 rfl) ?_
  obtain ⟨o3, hg4, hf⟩ := bd_some hf
  refine k_VI (As := []) C K_RX7_35 (Nat.le_of_ble_eq_true rfl) (Nat.le_of_ble_eq_true rfl) (kX6_isThrough l E q1 q1_signs i_p1_length o1.1 o1.2 o3 hg4) [4] rfl rfl rfl (ci := 6) rfl rfl (q0 := 0) rfl hP hD hS hA hl.1 (Nat.le_of_ble_eq_true rfl) rfl dX7_read_7 (fun H locs hP hD hS => ?_)
  have hP : va_P E.1 classes (WX7_read E q0 q0_hold q0_below q0_hay q1 q1_signs i_houses a_hold a_below a_hay i_p1_length o1.1 o1.2 a_p1_signs) H := hP
  have hD : va_D A (WX7_read E q0 q0_hold q0_below q0_hay q1 q1_signs i_houses a_hold a_below a_hay i_p1_length o1.1 o1.2 a_p1_signs) := hD
  refine lv_if_eq (tgt := 15) hx hb dX7_read_10 (by decide) (fun c5 => ?_) (fun c5 => ?_)
  · rw [if_pos c5] at hf
    refine lv_aload_n hx hb dX7_read_15 rfl (lv_at hl 0 rfl) ?_
    refine gf_RX7_21 C hP 0 rfl rfl dX7_read_16 ?_
    refine lv_istore_n (lv' := [(2, .int i_houses), (0, .ref q0), (1, .ref q1)]) hx hb dX7_read_19 rfl hl (by decide) rfl (fun ls hl => ?_)
    obtain ⟨o22, hg23, hf⟩ := bd_some hf
    refine L20 i_houses o1.2 FU i_houses a_hold a_below a_hay o1.1 o22 hg23 ?_ ?_ _ _ _ (lv_sub hl [1, 2, 0] rfl) hP hD hS
    · intro x24 hxx
      rw [hxx, Sum.elim_inl] at hf
      intro H locs ls hl hP hD hS
      refine lv_aload_n hx hb dX7_read_77 rfl (lv_at hl 0 rfl) ?_
      obtain ⟨o25, hg26, hf⟩ := bd_some hf
      refine k_VI (As := []) C K_RX7_43 (Nat.le_of_ble_eq_true rfl) (Nat.le_of_ble_eq_true rfl) (kX6_fault l E q1 q1_signs i_p1_length x24.2.2.2 o1.2 o25 hg26) [4] rfl rfl rfl (ci := 6) rfl rfl (q0 := 0) rfl hP hD hS hA hl.1 (Nat.le_of_ble_eq_true rfl) rfl dX7_read_78 (fun H locs hP hD hS => ?_)
      have hP : va_P E.1 classes (WX7_read E q0 q0_hold q0_below q0_hay q1 q1_signs i_houses x24.1 x24.2.1 x24.2.2.1 i_p1_length x24.2.2.2 o1.2 a_p1_signs) H := hP
      have hD : va_D A (WX7_read E q0 q0_hold q0_below q0_hay q1 q1_signs i_houses x24.1 x24.2.1 x24.2.2.1 i_p1_length x24.2.2.2 o1.2 a_p1_signs) := hD
      have hj0 := Option.some.inj hf
      obtain ⟨ha0, hj1⟩ := Prod.mk.inj hj0
      obtain ⟨ha1, hj2⟩ := Prod.mk.inj hj1
      obtain ⟨ha2, hj3⟩ := Prod.mk.inj hj2
      obtain ⟨ha3, hj4⟩ := Prod.mk.inj hj3
      obtain ⟨ha4, hj5⟩ := Prod.mk.inj hj4
      obtain ⟨ha5, hj6⟩ := Prod.mk.inj hj5
      subst ha0
      subst ha1
      subst ha2
      subst ha3
      subst ha4
      subst ha5
      subst hj6
      exact hret _ _ _ _ dX7_read_81 rfl hP hD hS
    · intro x hxx
      rw [hxx, Sum.elim_inr] at hf
      exact Option.some.inj hf
  · rw [if_neg c5] at hf
    refine lv_iconst (v := 0) hx hb dX7_read_13 (by decide) ?_
    have hj0 := Option.some.inj hf
    obtain ⟨ha0, hj1⟩ := Prod.mk.inj hj0
    obtain ⟨ha1, hj2⟩ := Prod.mk.inj hj1
    obtain ⟨ha2, hj3⟩ := Prod.mk.inj hj2
    obtain ⟨ha3, hj4⟩ := Prod.mk.inj hj3
    obtain ⟨ha4, hj5⟩ := Prod.mk.inj hj4
    obtain ⟨ha5, hj6⟩ := Prod.mk.inj hj5
    subst ha0
    subst ha1
    subst ha2
    subst ha3
    subst ha4
    subst ha5
    subst hj6
    exact hret _ _ _ _ dX7_read_14 rfl hP hD hS
theorem inT8 : ∀ w ∈ u_ws RX8 TX8 4, w ∈ Tg := by decide +kernel
theorem q395 : Cond.fieldLink RX8 21 "SnowForSummer$Tracks" "size" "I" ∈ Tg := Tg_mem 395 (by decide +kernel) (by decide +kernel)
theorem gf_RX8_21 {p : Program} {l : Launch} {e : Env} {R : Room} {s : State} {m : MethodId} {args : Array Value} {below : List Frame} {meth : Method} {c : Code} {H : Heap} {locs : List Loc} {cells slots : Nat} {Q : State → Prop} {E : ENV} {cc : ByteArray} {n : Nat} {r : Option FieldType} {pc : Nat} {ls : Array Slot} {rest : List Value} {a : Nat} {ws : va_W} {nm ds : String} {fs : List Value} {A : Nat → Prop} {v : Value} (C : Cx E A ⟨RX8, nm, ds⟩ cc n r p s m args meth c) (hP : va_P E.1 classes ws H) (q0 : Nat) (he : ws[q0]? = some (a, .inr (8, fs))) (hv : fs[3]? = some v) (hdg : decode cc pc = .ok (.getfield 21, 3))
    (kk : W p l e R s m args below meth c H locs cells slots Q (F0 m (pc + 3) ls (v :: rest))) : W p l e R s m args below meth c H locs cells slots Q (F0 m pc ls (.ref a :: rest)) :=
  va_get (C := RX8) (T := TX8) (N := 4) (Ts := wl ⟨RX8, nm, ds⟩ cc n r) C.1 C.2.1 C.2.2.2.2.1 (fun w h => List.mem_cons_of_mem _ (inT8 w h)) C.2.2.2.1 C.2.2.2.2.2.1 hP q0 he rfl 3 (by decide) (C.2.2.2.2.1 _ (List.mem_cons_of_mem _ q395)) (fun _ h9 => h9) hv hdg kk
theorem q391 : Cond.fieldLink RX8 11 "SnowForSummer$Tracks" "house" "[I" ∈ Tg := Tg_mem 391 (by decide +kernel) (by decide +kernel)
theorem gf_RX8_11 {p : Program} {l : Launch} {e : Env} {R : Room} {s : State} {m : MethodId} {args : Array Value} {below : List Frame} {meth : Method} {c : Code} {H : Heap} {locs : List Loc} {cells slots : Nat} {Q : State → Prop} {E : ENV} {cc : ByteArray} {n : Nat} {r : Option FieldType} {pc : Nat} {ls : Array Slot} {rest : List Value} {a : Nat} {ws : va_W} {nm ds : String} {fs : List Value} {A : Nat → Prop} {v : Value} (C : Cx E A ⟨RX8, nm, ds⟩ cc n r p s m args meth c) (hP : va_P E.1 classes ws H) (q0 : Nat) (he : ws[q0]? = some (a, .inr (8, fs))) (hv : fs[0]? = some v) (hdg : decode cc pc = .ok (.getfield 11, 3))
    (kk : W p l e R s m args below meth c H locs cells slots Q (F0 m (pc + 3) ls (v :: rest))) : W p l e R s m args below meth c H locs cells slots Q (F0 m pc ls (.ref a :: rest)) :=
  va_get (C := RX8) (T := TX8) (N := 4) (Ts := wl ⟨RX8, nm, ds⟩ cc n r) C.1 C.2.1 C.2.2.2.2.1 (fun w h => List.mem_cons_of_mem _ (inT8 w h)) C.2.2.2.1 C.2.2.2.2.2.1 hP q0 he rfl 0 (by decide) (C.2.2.2.2.1 _ (List.mem_cons_of_mem _ q391)) (fun _ h9 => h9) hv hdg kk
theorem q392 : Cond.fieldLink RX8 15 "SnowForSummer$Tracks" "night" "[I" ∈ Tg := Tg_mem 392 (by decide +kernel) (by decide +kernel)
theorem gf_RX8_15 {p : Program} {l : Launch} {e : Env} {R : Room} {s : State} {m : MethodId} {args : Array Value} {below : List Frame} {meth : Method} {c : Code} {H : Heap} {locs : List Loc} {cells slots : Nat} {Q : State → Prop} {E : ENV} {cc : ByteArray} {n : Nat} {r : Option FieldType} {pc : Nat} {ls : Array Slot} {rest : List Value} {a : Nat} {ws : va_W} {nm ds : String} {fs : List Value} {A : Nat → Prop} {v : Value} (C : Cx E A ⟨RX8, nm, ds⟩ cc n r p s m args meth c) (hP : va_P E.1 classes ws H) (q0 : Nat) (he : ws[q0]? = some (a, .inr (8, fs))) (hv : fs[1]? = some v) (hdg : decode cc pc = .ok (.getfield 15, 3))
    (kk : W p l e R s m args below meth c H locs cells slots Q (F0 m (pc + 3) ls (v :: rest))) : W p l e R s m args below meth c H locs cells slots Q (F0 m pc ls (.ref a :: rest)) :=
  va_get (C := RX8) (T := TX8) (N := 4) (Ts := wl ⟨RX8, nm, ds⟩ cc n r) C.1 C.2.1 C.2.2.2.2.1 (fun w h => List.mem_cons_of_mem _ (inT8 w h)) C.2.2.2.1 C.2.2.2.2.2.1 hP q0 he rfl 1 (by decide) (C.2.2.2.2.1 _ (List.mem_cons_of_mem _ q392)) (fun _ h9 => h9) hv hdg kk
theorem pf_RX8_21 {p : Program} {l : Launch} {e : Env} {R : Room} {s : State} {m : MethodId} {args : Array Value} {below : List Frame} {meth : Method} {c : Code} {H : Heap} {locs : List Loc} {cells slots : Nat} {Q : State → Prop} {E : ENV} {cc : ByteArray} {n : Nat} {r : Option FieldType} {pc : Nat} {ls : Array Slot} {rest : List Value} {a : Nat} {ws : va_W} {nm ds : String} {fs : List Value} {A : Nat → Prop} {H0 : Heap} {x : Int32} (C : Cx E A ⟨RX8, nm, ds⟩ cc n r p s m args meth c) (hP : va_P E.1 classes ws H) (hD : va_D A ws) (hS : va_S A H0 H locs) (q0 : Nat) (he : ws[q0]? = some (a, .inr (8, fs))) (hl : 3 < fs.length) (hdg : decode cc pc = .ok (.putfield 21, 3))
    (kk : ∀ (H1 : Heap) (locs1 : List Loc), va_P E.1 classes (ws.set q0 (a, .inr (8, fs.set 3 (.int x)))) H1 → va_D A (ws.set q0 (a, .inr (8, fs.set 3 (.int x)))) → va_S A H0 H1 locs1 → W p l e R s m args below meth c H1 locs1 cells slots Q (F0 m (pc + 3) ls rest)) : W p l e R s m args below meth c H locs cells slots Q (F0 m pc ls (.int x :: .ref a :: rest)) :=
  va_put (C := RX8) (T := TX8) (N := 4) (ty := .int) (Ts := wl ⟨RX8, nm, ds⟩ cc n r) C.1 C.2.1 C.2.2.2.2.1 (fun w h => List.mem_cons_of_mem _ (inT8 w h)) tyX8 tyX8_ok nmX8 C.2.2.2.1 C.2.2.2.2.2.1 hP hD hS q0 he rfl 3 (by decide) (C.2.2.2.2.1 _ (List.mem_cons_of_mem _ q395)) (fun _ h9 => h9) rfl (by decide +kernel) rfl rfl hl hdg kk
theorem dX8_add_0 : decode cX8_add 0 = .ok (.aload_n 0, 1) := by decide +kernel
theorem dX8_add_1 : decode cX8_add 1 = .ok (.getfield 21, 3) := by decide +kernel
theorem dX8_add_4 : decode cX8_add 4 = .ok (.bipush 20, 2) := by decide +kernel
theorem dX8_add_6 : decode cX8_add 6 = .ok (.if_icmp .ge 14, 3) := by decide +kernel
theorem dX8_add_9 : decode cX8_add 9 = .ok (.iload_n 2, 1) := by decide +kernel
theorem dX8_add_10 : decode cX8_add 10 = .ok (.ifCond .lt 10, 3) := by decide +kernel
theorem dX8_add_13 : decode cX8_add 13 = .ok (.iload_n 2, 1) := by decide +kernel
theorem dX8_add_14 : decode cX8_add 14 = .ok (.sipush 999, 3) := by decide +kernel
theorem dX8_add_17 : decode cX8_add 17 = .ok (.if_icmp .le 5, 3) := by decide +kernel
theorem dX8_add_20 : decode cX8_add 20 = .ok (.iconst (-1), 1) := by decide +kernel
theorem dX8_add_21 : decode cX8_add 21 = .ok (.ireturn, 1) := by decide +kernel
theorem dX8_add_22 : decode cX8_add 22 = .ok (.aload_n 0, 1) := by decide +kernel
theorem dX8_add_23 : decode cX8_add 23 = .ok (.getfield 11, 3) := by decide +kernel
theorem dX8_add_26 : decode cX8_add 26 = .ok (.aload_n 0, 1) := by decide +kernel
theorem dX8_add_27 : decode cX8_add 27 = .ok (.getfield 21, 3) := by decide +kernel
theorem dX8_add_30 : decode cX8_add 30 = .ok (.iload_n 1, 1) := by decide +kernel
theorem dX8_add_31 : decode cX8_add 31 = .ok (.iastore, 1) := by decide +kernel
theorem dX8_add_32 : decode cX8_add 32 = .ok (.aload_n 0, 1) := by decide +kernel
theorem dX8_add_33 : decode cX8_add 33 = .ok (.getfield 15, 3) := by decide +kernel
theorem dX8_add_36 : decode cX8_add 36 = .ok (.aload_n 0, 1) := by decide +kernel
theorem dX8_add_37 : decode cX8_add 37 = .ok (.getfield 21, 3) := by decide +kernel
theorem dX8_add_40 : decode cX8_add 40 = .ok (.iload_n 2, 1) := by decide +kernel
theorem dX8_add_41 : decode cX8_add 41 = .ok (.iastore, 1) := by decide +kernel
theorem dX8_add_42 : decode cX8_add 42 = .ok (.aload_n 0, 1) := by decide +kernel
theorem dX8_add_43 : decode cX8_add 43 = .ok (.dup, 1) := by decide +kernel
theorem dX8_add_44 : decode cX8_add 44 = .ok (.getfield 21, 3) := by decide +kernel
theorem dX8_add_47 : decode cX8_add 47 = .ok (.iconst 1, 1) := by decide +kernel
theorem dX8_add_48 : decode cX8_add 48 = .ok (.iadd, 1) := by decide +kernel
theorem dX8_add_49 : decode cX8_add 49 = .ok (.putfield 21, 3) := by decide +kernel
theorem dX8_add_52 : decode cX8_add 52 = .ok (.aload_n 0, 1) := by decide +kernel
theorem dX8_add_53 : decode cX8_add 53 = .ok (.getfield 21, 3) := by decide +kernel
theorem dX8_add_56 : decode cX8_add 56 = .ok (.ireturn, 1) := by decide +kernel
def WX8_add (E : ENV) (q0 : Nat) (q0_house : Nat) (q0_night : Nat) (q0_out : Nat) (i_size : Int32) (a_house : Nat → Int32) (a_night : Nat → Int32) : va_W := [(q0, .inr (8, [.ref q0_house, .ref q0_night, .ref q0_out, .int i_size])), (q0_house, .inl (E.2.1, 20, .inl a_house)), (q0_night, .inl (E.2.1, 20, .inl a_night))]
set_option maxHeartbeats 4000000 in
set_option maxRecDepth 20000 in
theorem kX8_add (l : Launch) (E : ENV) (q0 : Nat) (q0_house : Nat) (q0_night : Nat) (q0_out : Nat) (i_size : Int32) (a_house : Nat → Int32) (a_night : Nat → Int32) (p1 : Int32) (p2 : Int32) (r9 : Int32) (i_size9 : Int32) (a_house9 : Nat → Int32) (a_night9 : Nat → Int32) (hf : fX8_add i_size a_house a_night p1 p2 = some (r9, i_size9, a_house9, a_night9)) : CI l E yX8_add cX8_add 3 (some .int) 0 [.ref q0, .int p1, .int p2] (WX8_add E q0 q0_house q0_night q0_out i_size a_house a_night) (WX8_add E q0 q0_house q0_night q0_out i_size9 a_house9 a_night9) r9 := by
  refine begI (by decide +kernel) (Nat.le_of_ble_eq_true rfl) ?_
  intro p e s m args below meth c A Q C hA hret
  have hx := C.1
  have hb := C.2.1
  intro H locs ls hl hP hD hS
  have hl : lv_has ls 3 [(0, .ref q0), (1, .int p1), (2, .int p2)] := hl
  unfold fX8_add at hf
  refine lv_aload_n hx hb dX8_add_0 rfl (lv_at hl 0 rfl) ?_
  refine gf_RX8_21 C hP 0 rfl rfl dX8_add_1 ?_
  refine lv_bipush (v := 20) hx hb dX8_add_4 (by decide) ?_
  refine lv_icmp_ge (tgt := 20) hx hb dX8_add_6 (by decide) (fun c1 => ?_) (fun c1 => ?_)
  · rw [if_pos c1] at hf
    refine lv_iconst (v := (-1)) hx hb dX8_add_20 (by decide) ?_
    have hj0 := Option.some.inj hf
    obtain ⟨ha0, hj1⟩ := Prod.mk.inj hj0
    obtain ⟨ha1, hj2⟩ := Prod.mk.inj hj1
    obtain ⟨ha2, hj3⟩ := Prod.mk.inj hj2
    subst ha0
    subst ha1
    subst ha2
    subst hj3
    exact hret _ _ _ _ dX8_add_21 rfl hP hD hS
  · rw [if_neg c1] at hf
    refine lv_iload_n hx hb dX8_add_9 rfl (lv_at hl 2 rfl) ?_
    refine lv_if_lt (tgt := 20) hx hb dX8_add_10 (by decide) (fun c2 => ?_) (fun c2 => ?_)
    · rw [if_pos c2] at hf
      refine lv_iconst (v := (-1)) hx hb dX8_add_20 (by decide) ?_
      have hj0 := Option.some.inj hf
      obtain ⟨ha0, hj1⟩ := Prod.mk.inj hj0
      obtain ⟨ha1, hj2⟩ := Prod.mk.inj hj1
      obtain ⟨ha2, hj3⟩ := Prod.mk.inj hj2
      subst ha0
      subst ha1
      subst ha2
      subst hj3
      exact hret _ _ _ _ dX8_add_21 rfl hP hD hS
    · rw [if_neg c2] at hf
      refine lv_iload_n hx hb dX8_add_13 rfl (lv_at hl 2 rfl) ?_
      refine lv_sipush (v := 999) hx hb dX8_add_14 (by decide) ?_
      refine lv_icmp_le (tgt := 22) hx hb dX8_add_17 (by decide) (fun c3 => ?_) (fun c3 => ?_)
      · rw [if_pos c3] at hf
        refine lv_aload_n hx hb dX8_add_22 rfl (lv_at hl 0 rfl) ?_
        refine gf_RX8_11 C hP 0 rfl rfl dX8_add_23 ?_
        refine lv_aload_n hx hb dX8_add_26 rfl (lv_at hl 0 rfl) ?_
        refine gf_RX8_21 C hP 0 rfl rfl dX8_add_27 ?_
        refine lv_iload_n hx hb dX8_add_30 rfl (lv_at hl 1 rfl) ?_
        obtain ⟨g4, hf⟩ := gd_some hf
        refine va_iast hx hb C.2.2.2.2.2.1 hP hD hS 1 0 rfl rfl (vin_in g4) dX8_add_31 (fun H locs hP hD hS => ?_)
        have hP : va_P E.1 classes (WX8_add E q0 q0_house q0_night q0_out i_size ((upd a_house (i_size : Int32).toNatClampNeg p1)) a_night) H := hP
        have hD : va_D A (WX8_add E q0 q0_house q0_night q0_out i_size ((upd a_house (i_size : Int32).toNatClampNeg p1)) a_night) := hD
        refine lv_aload_n hx hb dX8_add_32 rfl (lv_at hl 0 rfl) ?_
        refine gf_RX8_15 C hP 0 rfl rfl dX8_add_33 ?_
        refine lv_aload_n hx hb dX8_add_36 rfl (lv_at hl 0 rfl) ?_
        refine gf_RX8_21 C hP 0 rfl rfl dX8_add_37 ?_
        refine lv_iload_n hx hb dX8_add_40 rfl (lv_at hl 2 rfl) ?_
        obtain ⟨g5, hf⟩ := gd_some hf
        refine va_iast hx hb C.2.2.2.2.2.1 hP hD hS 2 0 rfl rfl (vin_in g5) dX8_add_41 (fun H locs hP hD hS => ?_)
        have hP : va_P E.1 classes (WX8_add E q0 q0_house q0_night q0_out i_size ((upd a_house (i_size : Int32).toNatClampNeg p1)) ((upd a_night (i_size : Int32).toNatClampNeg p2))) H := hP
        have hD : va_D A (WX8_add E q0 q0_house q0_night q0_out i_size ((upd a_house (i_size : Int32).toNatClampNeg p1)) ((upd a_night (i_size : Int32).toNatClampNeg p2))) := hD
        refine lv_aload_n hx hb dX8_add_42 rfl (lv_at hl 0 rfl) ?_
        refine lv_dup hx hb dX8_add_43 rfl ?_
        refine gf_RX8_21 C hP 0 rfl rfl dX8_add_44 ?_
        refine lv_iconst (v := 1) hx hb dX8_add_47 (by decide) ?_
        refine lv_iadd hx hb dX8_add_48 ?_
        refine pf_RX8_21 C hP hD hS 0 rfl (Nat.le_of_ble_eq_true rfl) dX8_add_49 (fun H locs hP hD hS => ?_)
        have hP : va_P E.1 classes (WX8_add E q0 q0_house q0_night q0_out ((i_size + 1)) ((upd a_house (i_size : Int32).toNatClampNeg p1)) ((upd a_night (i_size : Int32).toNatClampNeg p2))) H := hP
        have hD : va_D A (WX8_add E q0 q0_house q0_night q0_out ((i_size + 1)) ((upd a_house (i_size : Int32).toNatClampNeg p1)) ((upd a_night (i_size : Int32).toNatClampNeg p2))) := hD
        refine lv_aload_n hx hb dX8_add_52 rfl (lv_at hl 0 rfl) ?_
        refine gf_RX8_21 C hP 0 rfl rfl dX8_add_53 ?_
        have hj0 := Option.some.inj hf
        obtain ⟨ha0, hj1⟩ := Prod.mk.inj hj0
        obtain ⟨ha1, hj2⟩ := Prod.mk.inj hj1
        obtain ⟨ha2, hj3⟩ := Prod.mk.inj hj2
        subst ha0
        subst ha1
        subst ha2
        subst hj3
        exact hret _ _ _ _ dX8_add_56 rfl hP hD hS
      · rw [if_neg c3] at hf
        refine lv_iconst (v := (-1)) hx hb dX8_add_20 (by decide) ?_
        have hj0 := Option.some.inj hf
        obtain ⟨ha0, hj1⟩ := Prod.mk.inj hj0
        obtain ⟨ha1, hj2⟩ := Prod.mk.inj hj1
        obtain ⟨ha2, hj3⟩ := Prod.mk.inj hj2
        subst ha0
        subst ha1
        subst ha2
        subst hj3
        exact hret _ _ _ _ dX8_add_21 rfl hP hD hS
theorem dX8_forget_0 : decode cX8_forget 0 = .ok (.aload_n 0, 1) := by decide +kernel
theorem dX8_forget_1 : decode cX8_forget 1 = .ok (.getfield 21, 3) := by decide +kernel
theorem dX8_forget_4 : decode cX8_forget 4 = .ok (.istore_n 1, 1) := by decide +kernel
theorem dX8_forget_5 : decode cX8_forget 5 = .ok (.aload_n 0, 1) := by decide +kernel
theorem dX8_forget_6 : decode cX8_forget 6 = .ok (.iconst 0, 1) := by decide +kernel
theorem dX8_forget_7 : decode cX8_forget 7 = .ok (.putfield 21, 3) := by decide +kernel
theorem dX8_forget_10 : decode cX8_forget 10 = .ok (.iload_n 1, 1) := by decide +kernel
theorem dX8_forget_11 : decode cX8_forget 11 = .ok (.ireturn, 1) := by decide +kernel
def WX8_forget (E : ENV) (q0 : Nat) (q0_house : Nat) (q0_night : Nat) (q0_out : Nat) (i_size : Int32) : va_W := [(q0, .inr (8, [.ref q0_house, .ref q0_night, .ref q0_out, .int i_size]))]
set_option maxHeartbeats 4000000 in
set_option maxRecDepth 20000 in
theorem kX8_forget (l : Launch) (E : ENV) (q0 : Nat) (q0_house : Nat) (q0_night : Nat) (q0_out : Nat) (i_size : Int32) (r9 : Int32) (i_size9 : Int32) (hf : fX8_forget i_size = some (r9, i_size9)) : CI l E yX8_forget cX8_forget 2 (some .int) 0 [.ref q0] (WX8_forget E q0 q0_house q0_night q0_out i_size) (WX8_forget E q0 q0_house q0_night q0_out i_size9) r9 := by
  refine begI (by decide +kernel) (Nat.le_of_ble_eq_true rfl) ?_
  intro p e s m args below meth c A Q C hA hret
  have hx := C.1
  have hb := C.2.1
  intro H locs ls hl hP hD hS
  have hl : lv_has ls 2 [(0, .ref q0)] := hl
  unfold fX8_forget at hf
  refine lv_aload_n hx hb dX8_forget_0 rfl (lv_at hl 0 rfl) ?_
  refine gf_RX8_21 C hP 0 rfl rfl dX8_forget_1 ?_
  refine lv_istore_n (lv' := [(1, .int i_size), (0, .ref q0)]) hx hb dX8_forget_4 rfl hl (by decide) rfl (fun ls hl => ?_)
  refine lv_aload_n hx hb dX8_forget_5 rfl (lv_at hl 1 rfl) ?_
  refine lv_iconst (v := 0) hx hb dX8_forget_6 (by decide) ?_
  refine pf_RX8_21 C hP hD hS 0 rfl (Nat.le_of_ble_eq_true rfl) dX8_forget_7 (fun H locs hP hD hS => ?_)
  have hP : va_P E.1 classes (WX8_forget E q0 q0_house q0_night q0_out 0) H := hP
  have hD : va_D A (WX8_forget E q0 q0_house q0_night q0_out 0) := hD
  refine lv_iload_n hx hb dX8_forget_10 rfl (lv_at hl 0 rfl) ?_
  have hj0 := Option.some.inj hf
  obtain ⟨ha0, hj1⟩ := Prod.mk.inj hj0
  subst ha0
  subst hj1
  exact hret _ _ _ _ dX8_forget_11 rfl hP hD hS
theorem q393 : Cond.fieldLink RX8 18 "SnowForSummer$Tracks" "out" "[I" ∈ Tg := Tg_mem 393 (by decide +kernel) (by decide +kernel)
theorem gf_RX8_18 {p : Program} {l : Launch} {e : Env} {R : Room} {s : State} {m : MethodId} {args : Array Value} {below : List Frame} {meth : Method} {c : Code} {H : Heap} {locs : List Loc} {cells slots : Nat} {Q : State → Prop} {E : ENV} {cc : ByteArray} {n : Nat} {r : Option FieldType} {pc : Nat} {ls : Array Slot} {rest : List Value} {a : Nat} {ws : va_W} {nm ds : String} {fs : List Value} {A : Nat → Prop} {v : Value} (C : Cx E A ⟨RX8, nm, ds⟩ cc n r p s m args meth c) (hP : va_P E.1 classes ws H) (q0 : Nat) (he : ws[q0]? = some (a, .inr (8, fs))) (hv : fs[2]? = some v) (hdg : decode cc pc = .ok (.getfield 18, 3))
    (kk : W p l e R s m args below meth c H locs cells slots Q (F0 m (pc + 3) ls (v :: rest))) : W p l e R s m args below meth c H locs cells slots Q (F0 m pc ls (.ref a :: rest)) :=
  va_get (C := RX8) (T := TX8) (N := 4) (Ts := wl ⟨RX8, nm, ds⟩ cc n r) C.1 C.2.1 C.2.2.2.2.1 (fun w h => List.mem_cons_of_mem _ (inT8 w h)) C.2.2.2.1 C.2.2.2.2.2.1 hP q0 he rfl 2 (by decide) (C.2.2.2.2.1 _ (List.mem_cons_of_mem _ q393)) (fun _ h9 => h9) hv hdg kk
theorem K_RX8_25 : KS RX8 25 yJ7_fill_53178 cJ7_fill_53178 4 none 2 := ⟨Tg_mem 727 (by decide +kernel) (by decide +kernel), Tg_mem 114 (by decide +kernel) (by decide +kernel), Tg_mem 1202 (by decide +kernel) (by decide +kernel), Tg_mem 726 (by decide +kernel) (by decide +kernel), by decide +kernel⟩
theorem dX8_gather_0 : decode cX8_gather 0 = .ok (.aload_n 0, 1) := by decide +kernel
theorem dX8_gather_1 : decode cX8_gather 1 = .ok (.getfield 18, 3) := by decide +kernel
theorem dX8_gather_4 : decode cX8_gather 4 = .ok (.iconst 0, 1) := by decide +kernel
theorem dX8_gather_5 : decode cX8_gather 5 = .ok (.invokestatic 25, 3) := by decide +kernel
theorem dX8_gather_8 : decode cX8_gather 8 = .ok (.iconst 0, 1) := by decide +kernel
theorem dX8_gather_9 : decode cX8_gather 9 = .ok (.istore_n 1, 1) := by decide +kernel
theorem dX8_gather_10 : decode cX8_gather 10 = .ok (.iload_n 1, 1) := by decide +kernel
theorem dX8_gather_11 : decode cX8_gather 11 = .ok (.aload_n 0, 1) := by decide +kernel
theorem dX8_gather_12 : decode cX8_gather 12 = .ok (.getfield 21, 3) := by decide +kernel
theorem dX8_gather_15 : decode cX8_gather 15 = .ok (.if_icmp .ge 48, 3) := by decide +kernel
theorem dX8_gather_18 : decode cX8_gather 18 = .ok (.iload_n 1, 1) := by decide +kernel
theorem dX8_gather_19 : decode cX8_gather 19 = .ok (.bipush 20, 2) := by decide +kernel
theorem dX8_gather_21 : decode cX8_gather 21 = .ok (.if_icmp .ge 42, 3) := by decide +kernel
theorem dX8_gather_24 : decode cX8_gather 24 = .ok (.aload_n 0, 1) := by decide +kernel
theorem dX8_gather_25 : decode cX8_gather 25 = .ok (.getfield 15, 3) := by decide +kernel
theorem dX8_gather_28 : decode cX8_gather 28 = .ok (.iload_n 1, 1) := by decide +kernel
theorem dX8_gather_29 : decode cX8_gather 29 = .ok (.iaload, 1) := by decide +kernel
theorem dX8_gather_30 : decode cX8_gather 30 = .ok (.bipush 31, 2) := by decide +kernel
theorem dX8_gather_32 : decode cX8_gather 32 = .ok (.if_icmp .ge 25, 3) := by decide +kernel
theorem dX8_gather_35 : decode cX8_gather 35 = .ok (.aload_n 0, 1) := by decide +kernel
theorem dX8_gather_36 : decode cX8_gather 36 = .ok (.getfield 18, 3) := by decide +kernel
theorem dX8_gather_39 : decode cX8_gather 39 = .ok (.aload_n 0, 1) := by decide +kernel
theorem dX8_gather_40 : decode cX8_gather 40 = .ok (.getfield 15, 3) := by decide +kernel
theorem dX8_gather_43 : decode cX8_gather 43 = .ok (.iload_n 1, 1) := by decide +kernel
theorem dX8_gather_44 : decode cX8_gather 44 = .ok (.iaload, 1) := by decide +kernel
theorem dX8_gather_45 : decode cX8_gather 45 = .ok (.dup2, 1) := by decide +kernel
theorem dX8_gather_46 : decode cX8_gather 46 = .ok (.iaload, 1) := by decide +kernel
theorem dX8_gather_47 : decode cX8_gather 47 = .ok (.iconst 1, 1) := by decide +kernel
theorem dX8_gather_48 : decode cX8_gather 48 = .ok (.aload_n 0, 1) := by decide +kernel
theorem dX8_gather_49 : decode cX8_gather 49 = .ok (.getfield 11, 3) := by decide +kernel
theorem dX8_gather_52 : decode cX8_gather 52 = .ok (.iload_n 1, 1) := by decide +kernel
theorem dX8_gather_53 : decode cX8_gather 53 = .ok (.iaload, 1) := by decide +kernel
theorem dX8_gather_54 : decode cX8_gather 54 = .ok (.ishl, 1) := by decide +kernel
theorem dX8_gather_55 : decode cX8_gather 55 = .ok (.ior, 1) := by decide +kernel
theorem dX8_gather_56 : decode cX8_gather 56 = .ok (.iastore, 1) := by decide +kernel
theorem dX8_gather_57 : decode cX8_gather 57 = .ok (.iinc 1 1, 3) := by decide +kernel
theorem dX8_gather_60 : decode cX8_gather 60 = .ok (.goto (-50), 3) := by decide +kernel
theorem dX8_gather_63 : decode cX8_gather 63 = .ok (.return_, 1) := by decide +kernel
def WX8_gather (E : ENV) (q0 : Nat) (q0_house : Nat) (q0_night : Nat) (q0_out : Nat) (i_size : Int32) (a_out : Nat → Int32) (a_night : Nat → Int32) (a_house : Nat → Int32) : va_W := [(q0, .inr (8, [.ref q0_house, .ref q0_night, .ref q0_out, .int i_size])), (q0_out, .inl (E.2.1, 31, .inl a_out)), (q0_night, .inl (E.2.1, 20, .inl a_night)), (q0_house, .inl (E.2.1, 20, .inl a_house))]
set_option maxHeartbeats 4000000 in
set_option maxRecDepth 20000 in
theorem kX8_gather (l : Launch) (E : ENV) (q0 : Nat) (q0_house : Nat) (q0_night : Nat) (q0_out : Nat) (i_size : Int32) (a_out : Nat → Int32) (a_night : Nat → Int32) (a_house : Nat → Int32) (a_out9 : Nat → Int32) (hf : fX8_gather i_size a_out a_night a_house = some a_out9) : CV l E yX8_gather cX8_gather 2 1 [.ref q0] (WX8_gather E q0 q0_house q0_night q0_out i_size a_out a_night a_house) (WX8_gather E q0 q0_house q0_night q0_out i_size a_out9 a_night a_house) := by
  refine begV (by decide +kernel) (Nat.le_of_ble_eq_true rfl) ?_
  intro p e s m args below meth c A Q C hA hret
  have hx := C.1
  have hb := C.2.1
  have L10 : ∀ (n : Nat) (v1 : Int32) (a_out : Nat → Int32) (o : (Nat → Int32)), fX8_gather_L10 i_size a_night a_house n v1 a_out = some o → (GO p l e 1 s m args below meth c Q E A 2 63 [] [] (WX8_gather E q0 q0_house q0_night q0_out i_size o a_night a_house)) → GO p l e 1 s m args below meth c Q E A 2 10 [] [(0, .ref q0), (1, .int v1)] (WX8_gather E q0 q0_house q0_night q0_out i_size a_out a_night a_house) := by
    intro n
    induction n with
    | zero =>
      intro v1 a_out o hf
      have hf : none = some o := hf
      cases hf
    | succ n ih =>
      intro v1 a_out o hf hE
      intro H locs ls hl hP hD hS
      rw [fX8_gather_L10] at hf
      refine lv_iload_n hx hb dX8_gather_10 rfl (lv_at hl 1 rfl) ?_
      refine lv_aload_n hx hb dX8_gather_11 rfl (lv_at hl 0 rfl) ?_
      refine gf_RX8_21 C hP 0 rfl rfl dX8_gather_12 ?_
      refine lv_icmp_ge (tgt := 63) hx hb dX8_gather_15 (by decide) (fun c3 => ?_) (fun c3 => ?_)
      · rw [if_pos c3] at hf
        have hf := Option.some.inj hf
        subst hf
        exact hE _ _ _ (lv_sub hl [] rfl) hP hD hS
      · rw [if_neg c3] at hf
        refine lv_iload_n hx hb dX8_gather_18 rfl (lv_at hl 1 rfl) ?_
        refine lv_bipush (v := 20) hx hb dX8_gather_19 (by decide) ?_
        refine lv_icmp_ge (tgt := 63) hx hb dX8_gather_21 (by decide) (fun c4 => ?_) (fun c4 => ?_)
        · rw [if_pos c4] at hf
          have hf := Option.some.inj hf
          subst hf
          exact hE _ _ _ (lv_sub hl [] rfl) hP hD hS
        · rw [if_neg c4] at hf
          refine lv_aload_n hx hb dX8_gather_24 rfl (lv_at hl 0 rfl) ?_
          refine gf_RX8_15 C hP 0 rfl rfl dX8_gather_25 ?_
          refine lv_iload_n hx hb dX8_gather_28 rfl (lv_at hl 1 rfl) ?_
          obtain ⟨g5, hf⟩ := gd_some hf
          refine va_iald hx hb C.2.2.2.2.2.1 hP 2 0 rfl rfl (vin_in g5) dX8_gather_29 ?_
          refine lv_bipush (v := 31) hx hb dX8_gather_30 (by decide) ?_
          refine lv_icmp_ge (tgt := 57) hx hb dX8_gather_32 (by decide) (fun c6 => ?_) (fun c6 => ?_)
          · rw [if_pos c6] at hf
            refine lv_iinc (v := (v1 + 1)) (lv' := [(1, .int ((v1 + 1))), (0, .ref q0)]) hx hb dX8_gather_57 hl (k := 1) rfl rfl (by decide) rfl (fun ls hl => ?_)
            refine lv_goto (tgt := 10) hx hb dX8_gather_60 (by decide) ?_
            exact ih ((v1 + 1)) a_out _ hf hE _ _ _ (lv_sub hl [1, 0] rfl) hP hD hS
          · rw [if_neg c6] at hf
            refine lv_aload_n hx hb dX8_gather_35 rfl (lv_at hl 0 rfl) ?_
            refine gf_RX8_18 C hP 0 rfl rfl dX8_gather_36 ?_
            refine lv_aload_n hx hb dX8_gather_39 rfl (lv_at hl 0 rfl) ?_
            refine gf_RX8_15 C hP 0 rfl rfl dX8_gather_40 ?_
            refine lv_iload_n hx hb dX8_gather_43 rfl (lv_at hl 1 rfl) ?_
            obtain ⟨g7, hf⟩ := gd_some hf
            refine va_iald hx hb C.2.2.2.2.2.1 hP 2 0 rfl rfl (vin_in g7) dX8_gather_44 ?_
            refine lv_dup2_11 hx hb dX8_gather_45 rfl rfl ?_
            obtain ⟨g8, hf⟩ := gd_some hf
            refine va_iald hx hb C.2.2.2.2.2.1 hP 1 0 rfl rfl (vin_in g8) dX8_gather_46 ?_
            refine lv_iconst (v := 1) hx hb dX8_gather_47 (by decide) ?_
            refine lv_aload_n hx hb dX8_gather_48 rfl (lv_at hl 0 rfl) ?_
            refine gf_RX8_11 C hP 0 rfl rfl dX8_gather_49 ?_
            refine lv_iload_n hx hb dX8_gather_52 rfl (lv_at hl 1 rfl) ?_
            obtain ⟨g9, hf⟩ := gd_some hf
            refine va_iald hx hb C.2.2.2.2.2.1 hP 3 0 rfl rfl (vin_in g9) dX8_gather_53 ?_
            refine lv_ishl hx hb dX8_gather_54 ?_
            refine lv_ior hx hb dX8_gather_55 ?_
            obtain ⟨g10, hf⟩ := gd_some hf
            refine va_iast hx hb C.2.2.2.2.2.1 hP hD hS 1 0 rfl rfl (vin_in g10) dX8_gather_56 (fun H locs hP hD hS => ?_)
            have hP : va_P E.1 classes (WX8_gather E q0 q0_house q0_night q0_out i_size ((upd a_out ((a_night (v1 : Int32).toNatClampNeg) : Int32).toNatClampNeg ((((a_out ((a_night (v1 : Int32).toNatClampNeg) : Int32).toNatClampNeg)) ||| ((1 <<< (((a_house (v1 : Int32).toNatClampNeg)) &&& 31))))))) a_night a_house) H := hP
            have hD : va_D A (WX8_gather E q0 q0_house q0_night q0_out i_size ((upd a_out ((a_night (v1 : Int32).toNatClampNeg) : Int32).toNatClampNeg ((((a_out ((a_night (v1 : Int32).toNatClampNeg) : Int32).toNatClampNeg)) ||| ((1 <<< (((a_house (v1 : Int32).toNatClampNeg)) &&& 31))))))) a_night a_house) := hD
            refine lv_iinc (v := (v1 + 1)) (lv' := [(1, .int ((v1 + 1))), (0, .ref q0)]) hx hb dX8_gather_57 hl (k := 1) rfl rfl (by decide) rfl (fun ls hl => ?_)
            refine lv_goto (tgt := 10) hx hb dX8_gather_60 (by decide) ?_
            exact ih ((v1 + 1)) ((upd a_out ((a_night (v1 : Int32).toNatClampNeg) : Int32).toNatClampNeg ((((a_out ((a_night (v1 : Int32).toNatClampNeg) : Int32).toNatClampNeg)) ||| ((1 <<< (((a_house (v1 : Int32).toNatClampNeg)) &&& 31))))))) _ hf hE _ _ _ (lv_sub hl [1, 0] rfl) hP hD hS
  intro H locs ls hl hP hD hS
  have hl : lv_has ls 2 [(0, .ref q0)] := hl
  unfold fX8_gather at hf
  refine lv_aload_n hx hb dX8_gather_0 rfl (lv_at hl 0 rfl) ?_
  refine gf_RX8_18 C hP 0 rfl rfl dX8_gather_1 ?_
  refine lv_iconst (v := 0) hx hb dX8_gather_4 (by decide) ?_
  obtain ⟨o1, hg2, hf⟩ := bd_some hf
  refine k_SV (As := [.ref q0_out, .int 0]) C K_RX8_25 (Nat.le_of_ble_eq_true rfl) (Nat.le_of_ble_eq_true rfl) (kJ7_fill_53178 l E q0_out 31 a_out 0 o1 hg2) [1] rfl rfl rfl  hP hD hS hA hl.1 (Nat.le_of_ble_eq_true rfl) rfl dX8_gather_5 (fun H locs hP hD hS => ?_)
  have hP : va_P E.1 classes (WX8_gather E q0 q0_house q0_night q0_out i_size o1 a_night a_house) H := hP
  have hD : va_D A (WX8_gather E q0 q0_house q0_night q0_out i_size o1 a_night a_house) := hD
  refine lv_iconst (v := 0) hx hb dX8_gather_8 (by decide) ?_
  refine lv_istore_n (lv' := [(1, .int 0), (0, .ref q0)]) hx hb dX8_gather_9 rfl hl (by decide) rfl (fun ls hl => ?_)
  obtain ⟨o11, hg12, hf⟩ := bd_some hf
  refine L10 FU 0 o1 o11 hg12 ?_ _ _ _ (lv_sub hl [1, 0] rfl) hP hD hS
  intro H locs ls hl hP hD hS
  have hj0 := Option.some.inj hf
  subst hj0
  exact hret _ _ _ _ dX8_gather_63 hP hD hS
theorem dX8_areSeen_0 : decode cX8_areSeen 0 = .ok (.iconst 0, 1) := by decide +kernel
theorem dX8_areSeen_1 : decode cX8_areSeen 1 = .ok (.istore_n 3, 1) := by decide +kernel
theorem dX8_areSeen_2 : decode cX8_areSeen 2 = .ok (.iload_n 3, 1) := by decide +kernel
theorem dX8_areSeen_3 : decode cX8_areSeen 3 = .ok (.bipush 31, 2) := by decide +kernel
theorem dX8_areSeen_5 : decode cX8_areSeen 5 = .ok (.if_icmp .ge 31, 3) := by decide +kernel
theorem dX8_areSeen_8 : decode cX8_areSeen 8 = .ok (.iload_n 2, 1) := by decide +kernel
theorem dX8_areSeen_9 : decode cX8_areSeen 9 = .ok (.iload_n 3, 1) := by decide +kernel
theorem dX8_areSeen_10 : decode cX8_areSeen 10 = .ok (.ishr, 1) := by decide +kernel
theorem dX8_areSeen_11 : decode cX8_areSeen 11 = .ok (.iconst 1, 1) := by decide +kernel
theorem dX8_areSeen_12 : decode cX8_areSeen 12 = .ok (.iand, 1) := by decide +kernel
theorem dX8_areSeen_13 : decode cX8_areSeen 13 = .ok (.iconst 1, 1) := by decide +kernel
theorem dX8_areSeen_14 : decode cX8_areSeen 14 = .ok (.if_icmp .ne 16, 3) := by decide +kernel
theorem dX8_areSeen_17 : decode cX8_areSeen 17 = .ok (.aload_n 0, 1) := by decide +kernel
theorem dX8_areSeen_18 : decode cX8_areSeen 18 = .ok (.getfield 18, 3) := by decide +kernel
theorem dX8_areSeen_21 : decode cX8_areSeen 21 = .ok (.iload_n 3, 1) := by decide +kernel
theorem dX8_areSeen_22 : decode cX8_areSeen 22 = .ok (.iaload, 1) := by decide +kernel
theorem dX8_areSeen_23 : decode cX8_areSeen 23 = .ok (.iload_n 1, 1) := by decide +kernel
theorem dX8_areSeen_24 : decode cX8_areSeen 24 = .ok (.iand, 1) := by decide +kernel
theorem dX8_areSeen_25 : decode cX8_areSeen 25 = .ok (.ifCond .ne 5, 3) := by decide +kernel
theorem dX8_areSeen_28 : decode cX8_areSeen 28 = .ok (.iconst 0, 1) := by decide +kernel
theorem dX8_areSeen_29 : decode cX8_areSeen 29 = .ok (.ireturn, 1) := by decide +kernel
theorem dX8_areSeen_30 : decode cX8_areSeen 30 = .ok (.iinc 3 1, 3) := by decide +kernel
theorem dX8_areSeen_33 : decode cX8_areSeen 33 = .ok (.goto (-31), 3) := by decide +kernel
theorem dX8_areSeen_36 : decode cX8_areSeen 36 = .ok (.iconst 1, 1) := by decide +kernel
theorem dX8_areSeen_37 : decode cX8_areSeen 37 = .ok (.ireturn, 1) := by decide +kernel
def WX8_areSeen (E : ENV) (q0 : Nat) (q0_house : Nat) (q0_night : Nat) (q0_out : Nat) (i_size : Int32) (a_out : Nat → Int32) : va_W := [(q0, .inr (8, [.ref q0_house, .ref q0_night, .ref q0_out, .int i_size])), (q0_out, .inl (E.2.1, 31, .inl a_out))]
set_option maxHeartbeats 4000000 in
set_option maxRecDepth 20000 in
theorem kX8_areSeen (l : Launch) (E : ENV) (q0 : Nat) (q0_house : Nat) (q0_night : Nat) (q0_out : Nat) (i_size : Int32) (a_out : Nat → Int32) (p1 : Int32) (p2 : Int32) (r9 : Int32) (hf : fX8_areSeen a_out p1 p2 = some r9) : CI l E yX8_areSeen cX8_areSeen 4 (some .boolean) 0 [.ref q0, .int p1, .int p2] (WX8_areSeen E q0 q0_house q0_night q0_out i_size a_out) (WX8_areSeen E q0 q0_house q0_night q0_out i_size a_out) r9 := by
  refine begI (by decide +kernel) (Nat.le_of_ble_eq_true rfl) ?_
  intro p e s m args below meth c A Q C hA hret
  have hx := C.1
  have hb := C.2.1
  have L2 : ∀ (n : Nat) (v3 : Int32) (o : (Unit) ⊕ (Int32)), fX8_areSeen_L2 a_out p1 p2 n v3 = some o → (∀ x, o = Sum.inl x → GO p l e 0 s m args below meth c Q E A 4 36 [] [] (WX8_areSeen E q0 q0_house q0_night q0_out i_size a_out)) → (∀ x, o = Sum.inr x → x = r9) → GO p l e 0 s m args below meth c Q E A 4 2 [] [(0, .ref q0), (1, .int p1), (2, .int p2), (3, .int v3)] (WX8_areSeen E q0 q0_house q0_night q0_out i_size a_out) := by
    intro n
    induction n with
    | zero =>
      intro v3 o hf
      have hf : none = some o := hf
      cases hf
    | succ n ih =>
      intro v3 o hf hE hR
      intro H locs ls hl hP hD hS
      rw [fX8_areSeen_L2] at hf
      refine lv_iload_n hx hb dX8_areSeen_2 rfl (lv_at hl 3 rfl) ?_
      refine lv_bipush (v := 31) hx hb dX8_areSeen_3 (by decide) ?_
      refine lv_icmp_ge (tgt := 36) hx hb dX8_areSeen_5 (by decide) (fun c1 => ?_) (fun c1 => ?_)
      · rw [if_pos c1] at hf
        have hf := Option.some.inj hf
        subst hf
        exact (hE _ rfl) _ _ _ (lv_sub hl [] rfl) hP hD hS
      · rw [if_neg c1] at hf
        refine lv_iload_n hx hb dX8_areSeen_8 rfl (lv_at hl 2 rfl) ?_
        refine lv_iload_n hx hb dX8_areSeen_9 rfl (lv_at hl 3 rfl) ?_
        refine lv_ishr hx hb dX8_areSeen_10 ?_
        refine lv_iconst (v := 1) hx hb dX8_areSeen_11 (by decide) ?_
        refine lv_iand hx hb dX8_areSeen_12 ?_
        refine lv_iconst (v := 1) hx hb dX8_areSeen_13 (by decide) ?_
        refine lv_icmp_ne (tgt := 30) hx hb dX8_areSeen_14 (by decide) (fun c2 => ?_) (fun c2 => ?_)
        · rw [if_neg c2] at hf
          refine lv_iinc (v := (v3 + 1)) (lv' := [(3, .int ((v3 + 1))), (0, .ref q0), (1, .int p1), (2, .int p2)]) hx hb dX8_areSeen_30 hl (k := 3) rfl rfl (by decide) rfl (fun ls hl => ?_)
          refine lv_goto (tgt := 2) hx hb dX8_areSeen_33 (by decide) ?_
          exact ih ((v3 + 1)) _ hf hE hR _ _ _ (lv_sub hl [1, 2, 3, 0] rfl) hP hD hS
        · rw [if_pos c2] at hf
          refine lv_aload_n hx hb dX8_areSeen_17 rfl (lv_at hl 0 rfl) ?_
          refine gf_RX8_18 C hP 0 rfl rfl dX8_areSeen_18 ?_
          refine lv_iload_n hx hb dX8_areSeen_21 rfl (lv_at hl 3 rfl) ?_
          obtain ⟨g3, hf⟩ := gd_some hf
          refine va_iald hx hb C.2.2.2.2.2.1 hP 1 0 rfl rfl (vin_in g3) dX8_areSeen_22 ?_
          refine lv_iload_n hx hb dX8_areSeen_23 rfl (lv_at hl 1 rfl) ?_
          refine lv_iand hx hb dX8_areSeen_24 ?_
          refine lv_if_ne (tgt := 30) hx hb dX8_areSeen_25 (by decide) (fun c4 => ?_) (fun c4 => ?_)
          · rw [if_neg c4] at hf
            refine lv_iinc (v := (v3 + 1)) (lv' := [(3, .int ((v3 + 1))), (0, .ref q0), (1, .int p1), (2, .int p2)]) hx hb dX8_areSeen_30 hl (k := 3) rfl rfl (by decide) rfl (fun ls hl => ?_)
            refine lv_goto (tgt := 2) hx hb dX8_areSeen_33 (by decide) ?_
            exact ih ((v3 + 1)) _ hf hE hR _ _ _ (lv_sub hl [1, 2, 3, 0] rfl) hP hD hS
          · rw [if_pos c4] at hf
            refine lv_iconst (v := 0) hx hb dX8_areSeen_28 (by decide) ?_
            have hf := Option.some.inj hf
            subst hf
            have hj0 := hR _ rfl
            subst hj0
            exact hret _ _ _ _ dX8_areSeen_29 rfl hP hD hS
  intro H locs ls hl hP hD hS
  have hl : lv_has ls 4 [(0, .ref q0), (1, .int p1), (2, .int p2)] := hl
  unfold fX8_areSeen at hf
  refine lv_iconst (v := 0) hx hb dX8_areSeen_0 (by decide) ?_
  refine lv_istore_n (lv' := [(3, .int 0), (0, .ref q0), (1, .int p1), (2, .int p2)]) hx hb dX8_areSeen_1 rfl hl (by decide) rfl (fun ls hl => ?_)
  obtain ⟨o5, hg6, hf⟩ := bd_some hf
  refine L2 FU 0 o5 hg6 ?_ ?_ _ _ _ (lv_sub hl [1, 2, 3, 0] rfl) hP hD hS
  · intro x7 hxx
    rw [hxx, Sum.elim_inl] at hf
    intro H locs ls hl hP hD hS
    refine lv_iconst (v := 1) hx hb dX8_areSeen_36 (by decide) ?_
    have hj0 := Option.some.inj hf
    subst hj0
    exact hret _ _ _ _ dX8_areSeen_37 rfl hP hD hS
  · intro x hxx
    rw [hxx, Sum.elim_inr] at hf
    exact Option.some.inj hf
theorem dX10_isWeather_0 : decode cX10_isWeather 0 = .ok (.iload_n 0, 1) := by decide +kernel
theorem dX10_isWeather_1 : decode cX10_isWeather 1 = .ok (.bipush 48, 2) := by decide +kernel
theorem dX10_isWeather_3 : decode cX10_isWeather 3 = .ok (.if_icmp .lt 9, 3) := by decide +kernel
theorem dX10_isWeather_6 : decode cX10_isWeather 6 = .ok (.iload_n 0, 1) := by decide +kernel
theorem dX10_isWeather_7 : decode cX10_isWeather 7 = .ok (.bipush 57, 2) := by decide +kernel
theorem dX10_isWeather_9 : decode cX10_isWeather 9 = .ok (.if_icmp .le 15, 3) := by decide +kernel
theorem dX10_isWeather_12 : decode cX10_isWeather 12 = .ok (.iload_n 0, 1) := by decide +kernel
theorem dX10_isWeather_13 : decode cX10_isWeather 13 = .ok (.bipush 97, 2) := by decide +kernel
theorem dX10_isWeather_15 : decode cX10_isWeather 15 = .ok (.if_icmp .lt 13, 3) := by decide +kernel
theorem dX10_isWeather_18 : decode cX10_isWeather 18 = .ok (.iload_n 0, 1) := by decide +kernel
theorem dX10_isWeather_19 : decode cX10_isWeather 19 = .ok (.bipush 105, 2) := by decide +kernel
theorem dX10_isWeather_21 : decode cX10_isWeather 21 = .ok (.if_icmp .gt 7, 3) := by decide +kernel
theorem dX10_isWeather_24 : decode cX10_isWeather 24 = .ok (.iconst 1, 1) := by decide +kernel
theorem dX10_isWeather_25 : decode cX10_isWeather 25 = .ok (.goto 4, 3) := by decide +kernel
theorem dX10_isWeather_28 : decode cX10_isWeather 28 = .ok (.iconst 0, 1) := by decide +kernel
theorem dX10_isWeather_29 : decode cX10_isWeather 29 = .ok (.ireturn, 1) := by decide +kernel
def WX10_isWeather (E : ENV)  : va_W := []
set_option maxHeartbeats 4000000 in
set_option maxRecDepth 20000 in
theorem kX10_isWeather (l : Launch) (E : ENV) (p0 : Int32) (r9 : Int32) (hf : fX10_isWeather p0 = some r9) : CI l E yX10_isWeather cX10_isWeather 1 (some .boolean) 0 [.int p0] (WX10_isWeather E) (WX10_isWeather E) r9 := by
  refine begI (by decide +kernel) (Nat.le_of_ble_eq_true rfl) ?_
  intro p e s m args below meth c A Q C hA hret
  have hx := C.1
  have hb := C.2.1
  have J12 : fX10_isWeather_J12 p0 = some r9 → GO p l e 0 s m args below meth c Q E A 1 12 [] [(0, .int p0)] (WX10_isWeather E) := by
    intro hf H locs ls hl hP hD hS
    unfold fX10_isWeather_J12 at hf
    refine lv_iload_n hx hb dX10_isWeather_12 rfl (lv_at hl 0 rfl) ?_
    refine lv_bipush (v := 97) hx hb dX10_isWeather_13 (by decide) ?_
    refine lv_icmp_lt (tgt := 28) hx hb dX10_isWeather_15 (by decide) (fun c2 => ?_) (fun c2 => ?_)
    · rw [if_pos c2] at hf
      refine lv_iconst (v := 0) hx hb dX10_isWeather_28 (by decide) ?_
      have hj0 := Option.some.inj hf
      subst hj0
      exact hret _ _ _ _ dX10_isWeather_29 rfl hP hD hS
    · rw [if_neg c2] at hf
      refine lv_iload_n hx hb dX10_isWeather_18 rfl (lv_at hl 0 rfl) ?_
      refine lv_bipush (v := 105) hx hb dX10_isWeather_19 (by decide) ?_
      refine lv_icmp_gt (tgt := 28) hx hb dX10_isWeather_21 (by decide) (fun c3 => ?_) (fun c3 => ?_)
      · rw [if_pos c3] at hf
        refine lv_iconst (v := 0) hx hb dX10_isWeather_28 (by decide) ?_
        have hj0 := Option.some.inj hf
        subst hj0
        exact hret _ _ _ _ dX10_isWeather_29 rfl hP hD hS
      · rw [if_neg c3] at hf
        refine lv_iconst (v := 1) hx hb dX10_isWeather_24 (by decide) ?_
        refine lv_goto (tgt := 29) hx hb dX10_isWeather_25 (by decide) ?_
        have hj0 := Option.some.inj hf
        subst hj0
        exact hret _ _ _ _ dX10_isWeather_29 rfl hP hD hS
  intro H locs ls hl hP hD hS
  have hl : lv_has ls 1 [(0, .int p0)] := hl
  unfold fX10_isWeather at hf
  refine lv_iload_n hx hb dX10_isWeather_0 rfl (lv_at hl 0 rfl) ?_
  refine lv_bipush (v := 48) hx hb dX10_isWeather_1 (by decide) ?_
  refine lv_icmp_lt (tgt := 12) hx hb dX10_isWeather_3 (by decide) (fun c1 => ?_) (fun c1 => ?_)
  · rw [if_pos c1] at hf
    exact J12 hf _ _ _ (lv_sub hl [0] rfl) hP hD hS
  · rw [if_neg c1] at hf
    refine lv_iload_n hx hb dX10_isWeather_6 rfl (lv_at hl 0 rfl) ?_
    refine lv_bipush (v := 57) hx hb dX10_isWeather_7 (by decide) ?_
    refine lv_icmp_le (tgt := 24) hx hb dX10_isWeather_9 (by decide) (fun c4 => ?_) (fun c4 => ?_)
    · rw [if_pos c4] at hf
      refine lv_iconst (v := 1) hx hb dX10_isWeather_24 (by decide) ?_
      refine lv_goto (tgt := 29) hx hb dX10_isWeather_25 (by decide) ?_
      have hj0 := Option.some.inj hf
      subst hj0
      exact hret _ _ _ _ dX10_isWeather_29 rfl hP hD hS
    · rw [if_neg c4] at hf
      exact J12 hf _ _ _ (lv_sub hl [0] rfl) hP hD hS
theorem K_RX10_17 : KV RX10 17 yX6_open cX6_open 2 none 1 := ⟨Tg_mem 488 (by decide +kernel) (by decide +kernel), Tg_mem 91 (by decide +kernel) (by decide +kernel), Tg_mem 549 (by decide +kernel) (by decide +kernel), Tg_mem 486 (by decide +kernel) (by decide +kernel), Tg_mem 487 (by decide +kernel) (by decide +kernel), by decide +kernel⟩
theorem K_RX10_23 : KV RX10 23 yX6_peek cX6_peek 1 (some .int) 0 := ⟨Tg_mem 511 (by decide +kernel) (by decide +kernel), Tg_mem 91 (by decide +kernel) (by decide +kernel), Tg_mem 550 (by decide +kernel) (by decide +kernel), Tg_mem 509 (by decide +kernel) (by decide +kernel), Tg_mem 510 (by decide +kernel) (by decide +kernel), by decide +kernel⟩
theorem K_RX10_27 : KS RX10 27 yX10_isWeather cX10_isWeather 1 (some .boolean) 1 := ⟨Tg_mem 553 (by decide +kernel) (by decide +kernel), Tg_mem 93 (by decide +kernel) (by decide +kernel), Tg_mem 551 (by decide +kernel) (by decide +kernel), Tg_mem 552 (by decide +kernel) (by decide +kernel), by decide +kernel⟩
theorem K_RX10_34 : KV RX10 34 yX6_skip cX6_skip 1 none 0 := ⟨Tg_mem 558 (by decide +kernel) (by decide +kernel), Tg_mem 91 (by decide +kernel) (by decide +kernel), Tg_mem 555 (by decide +kernel) (by decide +kernel), Tg_mem 556 (by decide +kernel) (by decide +kernel), Tg_mem 557 (by decide +kernel) (by decide +kernel), by decide +kernel⟩
theorem K_RX10_31 : KV RX10 31 yX6_fault cX6_fault 1 (some .int) 0 := ⟨Tg_mem 528 (by decide +kernel) (by decide +kernel), Tg_mem 91 (by decide +kernel) (by decide +kernel), Tg_mem 554 (by decide +kernel) (by decide +kernel), Tg_mem 526 (by decide +kernel) (by decide +kernel), Tg_mem 527 (by decide +kernel) (by decide +kernel), by decide +kernel⟩
theorem K_RX10_37 : KV RX10 37 yX6_isThrough cX6_isThrough 1 (some .boolean) 0 := ⟨Tg_mem 495 (by decide +kernel) (by decide +kernel), Tg_mem 91 (by decide +kernel) (by decide +kernel), Tg_mem 559 (by decide +kernel) (by decide +kernel), Tg_mem 493 (by decide +kernel) (by decide +kernel), Tg_mem 494 (by decide +kernel) (by decide +kernel), by decide +kernel⟩
theorem q178 : Cond.fieldLink RX10 41 "SnowForSummer$Weather" "length" "I" ∈ Tg := Tg_mem 178 (by decide +kernel) (by decide +kernel)
theorem pf_RX10_41 {p : Program} {l : Launch} {e : Env} {R : Room} {s : State} {m : MethodId} {args : Array Value} {below : List Frame} {meth : Method} {c : Code} {H : Heap} {locs : List Loc} {cells slots : Nat} {Q : State → Prop} {E : ENV} {cc : ByteArray} {n : Nat} {r : Option FieldType} {pc : Nat} {ls : Array Slot} {rest : List Value} {a : Nat} {ws : va_W} {nm ds : String} {fs : List Value} {A : Nat → Prop} {H0 : Heap} {x : Int32} (C : Cx E A ⟨RX10, nm, ds⟩ cc n r p s m args meth c) (hP : va_P E.1 classes ws H) (hD : va_D A ws) (hS : va_S A H0 H locs) (q0 : Nat) (he : ws[q0]? = some (a, .inr (10, fs))) (hl : 1 < fs.length) (hdg : decode cc pc = .ok (.putfield 41, 3))
    (kk : ∀ (H1 : Heap) (locs1 : List Loc), va_P E.1 classes (ws.set q0 (a, .inr (10, fs.set 1 (.int x)))) H1 → va_D A (ws.set q0 (a, .inr (10, fs.set 1 (.int x)))) → va_S A H0 H1 locs1 → W p l e R s m args below meth c H1 locs1 cells slots Q (F0 m (pc + 3) ls rest)) : W p l e R s m args below meth c H locs cells slots Q (F0 m pc ls (.int x :: .ref a :: rest)) :=
  va_put (C := RX10) (T := TX10) (N := 3) (ty := .int) (Ts := wl ⟨RX10, nm, ds⟩ cc n r) C.1 C.2.1 C.2.2.2.2.1 (fun w h => List.mem_cons_of_mem _ (inT10 w h)) tyX10 tyX10_ok nmX10 C.2.2.2.1 C.2.2.2.2.2.1 hP hD hS q0 he rfl 1 (by decide) (C.2.2.2.2.1 _ (List.mem_cons_of_mem _ q178)) (fun _ h9 => h9) rfl (by decide +kernel) rfl rfl hl hdg kk
theorem gf_RX10_41 {p : Program} {l : Launch} {e : Env} {R : Room} {s : State} {m : MethodId} {args : Array Value} {below : List Frame} {meth : Method} {c : Code} {H : Heap} {locs : List Loc} {cells slots : Nat} {Q : State → Prop} {E : ENV} {cc : ByteArray} {n : Nat} {r : Option FieldType} {pc : Nat} {ls : Array Slot} {rest : List Value} {a : Nat} {ws : va_W} {nm ds : String} {fs : List Value} {A : Nat → Prop} {v : Value} (C : Cx E A ⟨RX10, nm, ds⟩ cc n r p s m args meth c) (hP : va_P E.1 classes ws H) (q0 : Nat) (he : ws[q0]? = some (a, .inr (10, fs))) (hv : fs[1]? = some v) (hdg : decode cc pc = .ok (.getfield 41, 3))
    (kk : W p l e R s m args below meth c H locs cells slots Q (F0 m (pc + 3) ls (v :: rest))) : W p l e R s m args below meth c H locs cells slots Q (F0 m pc ls (.ref a :: rest)) :=
  va_get (C := RX10) (T := TX10) (N := 3) (Ts := wl ⟨RX10, nm, ds⟩ cc n r) C.1 C.2.1 C.2.2.2.2.1 (fun w h => List.mem_cons_of_mem _ (inT10 w h)) C.2.2.2.1 C.2.2.2.2.2.1 hP q0 he rfl 1 (by decide) (C.2.2.2.2.1 _ (List.mem_cons_of_mem _ q178)) (fun _ h9 => h9) hv hdg kk
theorem q560 : Cond.methodLink RX10 44 Lib.Math.max.name ∈ Tg := Tg_mem 560 (by decide +kernel) (by decide +kernel)
theorem pf_RX10_13 {p : Program} {l : Launch} {e : Env} {R : Room} {s : State} {m : MethodId} {args : Array Value} {below : List Frame} {meth : Method} {c : Code} {H : Heap} {locs : List Loc} {cells slots : Nat} {Q : State → Prop} {E : ENV} {cc : ByteArray} {n : Nat} {r : Option FieldType} {pc : Nat} {ls : Array Slot} {rest : List Value} {a : Nat} {ws : va_W} {nm ds : String} {fs : List Value} {A : Nat → Prop} {H0 : Heap} {x : Int32} (C : Cx E A ⟨RX10, nm, ds⟩ cc n r p s m args meth c) (hP : va_P E.1 classes ws H) (hD : va_D A ws) (hS : va_S A H0 H locs) (q0 : Nat) (he : ws[q0]? = some (a, .inr (10, fs))) (hl : 2 < fs.length) (hdg : decode cc pc = .ok (.putfield 13, 3))
    (kk : ∀ (H1 : Heap) (locs1 : List Loc), va_P E.1 classes (ws.set q0 (a, .inr (10, fs.set 2 (.int x)))) H1 → va_D A (ws.set q0 (a, .inr (10, fs.set 2 (.int x)))) → va_S A H0 H1 locs1 → W p l e R s m args below meth c H1 locs1 cells slots Q (F0 m (pc + 3) ls rest)) : W p l e R s m args below meth c H locs cells slots Q (F0 m pc ls (.int x :: .ref a :: rest)) :=
  va_put (C := RX10) (T := TX10) (N := 3) (ty := .int) (Ts := wl ⟨RX10, nm, ds⟩ cc n r) C.1 C.2.1 C.2.2.2.2.1 (fun w h => List.mem_cons_of_mem _ (inT10 w h)) tyX10 tyX10_ok nmX10 C.2.2.2.1 C.2.2.2.2.2.1 hP hD hS q0 he rfl 2 (by decide) (C.2.2.2.2.1 _ (List.mem_cons_of_mem _ q180)) (fun _ h9 => h9) rfl (by decide +kernel) rfl rfl hl hdg kk
theorem dX10_read_0 : decode cX10_read 0 = .ok (.aload_n 1, 1) := by decide +kernel
theorem dX10_read_1 : decode cX10_read 1 = .ok (.bipush 40, 2) := by decide +kernel
theorem dX10_read_3 : decode cX10_read 3 = .ok (.invokevirtual 17, 3) := by decide +kernel
theorem dX10_read_6 : decode cX10_read 6 = .ok (.iconst 0, 1) := by decide +kernel
theorem dX10_read_7 : decode cX10_read 7 = .ok (.istore_n 2, 1) := by decide +kernel
theorem dX10_read_8 : decode cX10_read 8 = .ok (.iload_n 2, 1) := by decide +kernel
theorem dX10_read_9 : decode cX10_read 9 = .ok (.bipush 40, 2) := by decide +kernel
theorem dX10_read_11 : decode cX10_read 11 = .ok (.if_icmp .ge 35, 3) := by decide +kernel
theorem dX10_read_14 : decode cX10_read 14 = .ok (.aload_n 1, 1) := by decide +kernel
theorem dX10_read_15 : decode cX10_read 15 = .ok (.invokevirtual 23, 3) := by decide +kernel
theorem dX10_read_18 : decode cX10_read 18 = .ok (.ifCond .lt 28, 3) := by decide +kernel
theorem dX10_read_21 : decode cX10_read 21 = .ok (.aload_n 1, 1) := by decide +kernel
theorem dX10_read_22 : decode cX10_read 22 = .ok (.invokevirtual 23, 3) := by decide +kernel
theorem dX10_read_25 : decode cX10_read 25 = .ok (.invokestatic 27, 3) := by decide +kernel
theorem dX10_read_28 : decode cX10_read 28 = .ok (.ifCond .ne 8, 3) := by decide +kernel
theorem dX10_read_31 : decode cX10_read 31 = .ok (.aload_n 1, 1) := by decide +kernel
theorem dX10_read_32 : decode cX10_read 32 = .ok (.invokevirtual 31, 3) := by decide +kernel
theorem dX10_read_35 : decode cX10_read 35 = .ok (.ireturn, 1) := by decide +kernel
theorem dX10_read_36 : decode cX10_read 36 = .ok (.aload_n 1, 1) := by decide +kernel
theorem dX10_read_37 : decode cX10_read 37 = .ok (.invokevirtual 34, 3) := by decide +kernel
theorem dX10_read_40 : decode cX10_read 40 = .ok (.iinc 2 1, 3) := by decide +kernel
theorem dX10_read_43 : decode cX10_read 43 = .ok (.goto (-35), 3) := by decide +kernel
theorem dX10_read_46 : decode cX10_read 46 = .ok (.aload_n 1, 1) := by decide +kernel
theorem dX10_read_47 : decode cX10_read 47 = .ok (.invokevirtual 37, 3) := by decide +kernel
theorem dX10_read_50 : decode cX10_read 50 = .ok (.ifCond .ne 8, 3) := by decide +kernel
theorem dX10_read_53 : decode cX10_read 53 = .ok (.aload_n 1, 1) := by decide +kernel
theorem dX10_read_54 : decode cX10_read 54 = .ok (.invokevirtual 31, 3) := by decide +kernel
theorem dX10_read_57 : decode cX10_read 57 = .ok (.ireturn, 1) := by decide +kernel
theorem dX10_read_58 : decode cX10_read 58 = .ok (.aload_n 1, 1) := by decide +kernel
theorem dX10_read_59 : decode cX10_read 59 = .ok (.bipush 40, 2) := by decide +kernel
theorem dX10_read_61 : decode cX10_read 61 = .ok (.invokevirtual 17, 3) := by decide +kernel
theorem dX10_read_64 : decode cX10_read 64 = .ok (.aload_n 0, 1) := by decide +kernel
theorem dX10_read_65 : decode cX10_read 65 = .ok (.iconst 0, 1) := by decide +kernel
theorem dX10_read_66 : decode cX10_read 66 = .ok (.putfield 41, 3) := by decide +kernel
theorem dX10_read_69 : decode cX10_read 69 = .ok (.aload_n 0, 1) := by decide +kernel
theorem dX10_read_70 : decode cX10_read 70 = .ok (.getfield 9, 3) := by decide +kernel
theorem dX10_read_73 : decode cX10_read 73 = .ok (.iconst 0, 1) := by decide +kernel
theorem dX10_read_74 : decode cX10_read 74 = .ok (.iconst 0, 1) := by decide +kernel
theorem dX10_read_75 : decode cX10_read 75 = .ok (.iastore, 1) := by decide +kernel
theorem dX10_read_76 : decode cX10_read 76 = .ok (.iconst 0, 1) := by decide +kernel
theorem dX10_read_77 : decode cX10_read 77 = .ok (.istore_n 2, 1) := by decide +kernel
theorem dX10_read_78 : decode cX10_read 78 = .ok (.iload_n 2, 1) := by decide +kernel
theorem dX10_read_79 : decode cX10_read 79 = .ok (.bipush 40, 2) := by decide +kernel
theorem dX10_read_81 : decode cX10_read 81 = .ok (.if_icmp .ge 58, 3) := by decide +kernel
theorem dX10_read_84 : decode cX10_read 84 = .ok (.aload_n 1, 1) := by decide +kernel
theorem dX10_read_85 : decode cX10_read 85 = .ok (.invokevirtual 23, 3) := by decide +kernel
theorem dX10_read_88 : decode cX10_read 88 = .ok (.ifCond .lt 51, 3) := by decide +kernel
theorem dX10_read_91 : decode cX10_read 91 = .ok (.aload_n 1, 1) := by decide +kernel
theorem dX10_read_92 : decode cX10_read 92 = .ok (.invokevirtual 23, 3) := by decide +kernel
theorem dX10_read_95 : decode cX10_read 95 = .ok (.istore_n 3, 1) := by decide +kernel
theorem dX10_read_96 : decode cX10_read 96 = .ok (.aload_n 0, 1) := by decide +kernel
theorem dX10_read_97 : decode cX10_read 97 = .ok (.getfield 9, 3) := by decide +kernel
theorem dX10_read_100 : decode cX10_read 100 = .ok (.iload_n 2, 1) := by decide +kernel
theorem dX10_read_101 : decode cX10_read 101 = .ok (.iload_n 3, 1) := by decide +kernel
theorem dX10_read_102 : decode cX10_read 102 = .ok (.bipush 57, 2) := by decide +kernel
theorem dX10_read_104 : decode cX10_read 104 = .ok (.if_icmp .gt 10, 3) := by decide +kernel
theorem dX10_read_107 : decode cX10_read 107 = .ok (.iload_n 3, 1) := by decide +kernel
theorem dX10_read_108 : decode cX10_read 108 = .ok (.bipush 48, 2) := by decide +kernel
theorem dX10_read_110 : decode cX10_read 110 = .ok (.isub, 1) := by decide +kernel
theorem dX10_read_111 : decode cX10_read 111 = .ok (.goto 7, 3) := by decide +kernel
theorem dX10_read_114 : decode cX10_read 114 = .ok (.bipush 96, 2) := by decide +kernel
theorem dX10_read_116 : decode cX10_read 116 = .ok (.iload_n 3, 1) := by decide +kernel
theorem dX10_read_117 : decode cX10_read 117 = .ok (.isub, 1) := by decide +kernel
theorem dX10_read_118 : decode cX10_read 118 = .ok (.iastore, 1) := by decide +kernel
theorem dX10_read_119 : decode cX10_read 119 = .ok (.aload_n 0, 1) := by decide +kernel
theorem dX10_read_120 : decode cX10_read 120 = .ok (.dup, 1) := by decide +kernel
theorem dX10_read_121 : decode cX10_read 121 = .ok (.getfield 41, 3) := by decide +kernel
theorem dX10_read_124 : decode cX10_read 124 = .ok (.iconst 1, 1) := by decide +kernel
theorem dX10_read_125 : decode cX10_read 125 = .ok (.iadd, 1) := by decide +kernel
theorem dX10_read_126 : decode cX10_read 126 = .ok (.putfield 41, 3) := by decide +kernel
theorem dX10_read_129 : decode cX10_read 129 = .ok (.aload_n 1, 1) := by decide +kernel
theorem dX10_read_130 : decode cX10_read 130 = .ok (.invokevirtual 34, 3) := by decide +kernel
theorem dX10_read_133 : decode cX10_read 133 = .ok (.iinc 2 1, 3) := by decide +kernel
theorem dX10_read_136 : decode cX10_read 136 = .ok (.goto (-58), 3) := by decide +kernel
theorem dX10_read_139 : decode cX10_read 139 = .ok (.aload_n 0, 1) := by decide +kernel
theorem dX10_read_140 : decode cX10_read 140 = .ok (.iconst 1, 1) := by decide +kernel
theorem dX10_read_141 : decode cX10_read 141 = .ok (.aload_n 0, 1) := by decide +kernel
theorem dX10_read_142 : decode cX10_read 142 = .ok (.getfield 41, 3) := by decide +kernel
theorem dX10_read_145 : decode cX10_read 145 = .ok (.invokestatic 44, 3) := by decide +kernel
theorem dX10_read_148 : decode cX10_read 148 = .ok (.putfield 13, 3) := by decide +kernel
theorem dX10_read_151 : decode cX10_read 151 = .ok (.aload_n 0, 1) := by decide +kernel
theorem dX10_read_152 : decode cX10_read 152 = .ok (.getfield 41, 3) := by decide +kernel
theorem dX10_read_155 : decode cX10_read 155 = .ok (.ireturn, 1) := by decide +kernel
def WX10_read (E : ENV) (q0 : Nat) (q0_inches : Nat) (q1 : Nat) (q1_signs : Nat) (i_length : Int32) (i_cycle : Int32) (a_inches : Nat → Int32) (i_p1_length : Int32) (i_p1_place : Int32) (i_p1_limit : Int32) (a_p1_signs : Nat → Int32) : va_W := [(q0, .inr (10, [.ref q0_inches, .int i_length, .int i_cycle])), (q0_inches, .inl (E.2.1, 40, .inl a_inches)), (q1, .inr (6, [.ref q1_signs, .int i_p1_length, .int i_p1_place, .int i_p1_limit])), (q1_signs, .inl (E.2.1, 80, .inl a_p1_signs))]
set_option maxHeartbeats 4000000 in
set_option maxRecDepth 20000 in
theorem kX10_read (l : Launch) (E : ENV) (q0 : Nat) (q0_inches : Nat) (q1 : Nat) (q1_signs : Nat) (i_length : Int32) (i_cycle : Int32) (a_inches : Nat → Int32) (i_p1_length : Int32) (i_p1_place : Int32) (i_p1_limit : Int32) (a_p1_signs : Nat → Int32) (r9 : Int32) (i_length9 : Int32) (i_cycle9 : Int32) (a_inches9 : Nat → Int32) (i_p1_place9 : Int32) (i_p1_limit9 : Int32) (hf : fX10_read i_length i_cycle a_inches i_p1_length i_p1_place i_p1_limit a_p1_signs = some (r9, i_length9, i_cycle9, a_inches9, i_p1_place9, i_p1_limit9)) : CI l E yX10_read cX10_read 4 (some .int) 2 [.ref q0, .ref q1] (WX10_read E q0 q0_inches q1 q1_signs i_length i_cycle a_inches i_p1_length i_p1_place i_p1_limit a_p1_signs) (WX10_read E q0 q0_inches q1 q1_signs i_length9 i_cycle9 a_inches9 i_p1_length i_p1_place9 i_p1_limit9 a_p1_signs) r9 := by
  refine begI (by decide +kernel) (Nat.le_of_ble_eq_true rfl) ?_
  intro p e s m args below meth c A Q C hA hret
  have hx := C.1
  have hb := C.2.1
  have L8 : ∀ (i_length : Int32) (i_cycle : Int32) (a_inches : Nat → Int32) (i_p1_limit : Int32), ∀ (n : Nat) (v2 : Int32) (i_p1_place : Int32) (o : (Int32) ⊕ (Int32 × Int32 × Int32 × (Nat → Int32) × Int32 × Int32)), fX10_read_L8 a_p1_signs i_length i_cycle a_inches i_p1_limit n v2 i_p1_place = some o → (∀ x, o = Sum.inl x → GO p l e 2 s m args below meth c Q E A 4 46 [] [(0, .ref q0), (1, .ref q1)] (WX10_read E q0 q0_inches q1 q1_signs i_length i_cycle a_inches i_p1_length x i_p1_limit a_p1_signs)) → (∀ x, o = Sum.inr x → x = (r9, i_length9, i_cycle9, a_inches9, i_p1_place9, i_p1_limit9)) → GO p l e 2 s m args below meth c Q E A 4 8 [] [(0, .ref q0), (1, .ref q1), (2, .int v2)] (WX10_read E q0 q0_inches q1 q1_signs i_length i_cycle a_inches i_p1_length i_p1_place i_p1_limit a_p1_signs) := by
    intro i_length i_cycle a_inches i_p1_limit
    intro n
    induction n with
    | zero =>
      intro v2 i_p1_place o hf
      have hf : none = some o := hf
      cases hf
    | succ n ih =>
      intro v2 i_p1_place o hf hE hR
      intro H locs ls hl hP hD hS
      rw [fX10_read_L8] at hf
      refine lv_iload_n hx hb dX10_read_8 rfl (lv_at hl 2 rfl) ?_
      refine lv_bipush (v := 40) hx hb dX10_read_9 (by decide) ?_
      refine lv_icmp_ge (tgt := 46) hx hb dX10_read_11 (by decide) (fun c3 => ?_) (fun c3 => ?_)
      · rw [if_pos c3] at hf
        have hf := Option.some.inj hf
        subst hf
        exact (hE _ rfl) _ _ _ (lv_sub hl [0, 1] rfl) hP hD hS
      · rw [if_neg c3] at hf
        refine lv_aload_n hx hb dX10_read_14 rfl (lv_at hl 1 rfl) ?_
        obtain ⟨o4, hg5, hf⟩ := bd_some hf
        refine k_VI (As := []) C K_RX10_23 (Nat.le_of_ble_eq_true rfl) (Nat.le_of_ble_eq_true rfl) (kX6_peek l E q1 q1_signs i_p1_length i_p1_place i_p1_limit a_p1_signs o4 hg5) [2, 3] rfl rfl rfl (ci := 6) rfl rfl (q0 := 0) rfl hP hD hS hA hl.1 (Nat.le_of_ble_eq_true rfl) rfl dX10_read_15 (fun H locs hP hD hS => ?_)
        have hP : va_P E.1 classes (WX10_read E q0 q0_inches q1 q1_signs i_length i_cycle a_inches i_p1_length i_p1_place i_p1_limit a_p1_signs) H := hP
        have hD : va_D A (WX10_read E q0 q0_inches q1 q1_signs i_length i_cycle a_inches i_p1_length i_p1_place i_p1_limit a_p1_signs) := hD
        refine lv_if_lt (tgt := 46) hx hb dX10_read_18 (by decide) (fun c6 => ?_) (fun c6 => ?_)
        · rw [if_pos c6] at hf
          have hf := Option.some.inj hf
          subst hf
          exact (hE _ rfl) _ _ _ (lv_sub hl [0, 1] rfl) hP hD hS
        · rw [if_neg c6] at hf
          refine lv_aload_n hx hb dX10_read_21 rfl (lv_at hl 1 rfl) ?_
          obtain ⟨o7, hg8, hf⟩ := bd_some hf
          refine k_VI (As := []) C K_RX10_23 (Nat.le_of_ble_eq_true rfl) (Nat.le_of_ble_eq_true rfl) (kX6_peek l E q1 q1_signs i_p1_length i_p1_place i_p1_limit a_p1_signs o7 hg8) [2, 3] rfl rfl rfl (ci := 6) rfl rfl (q0 := 0) rfl hP hD hS hA hl.1 (Nat.le_of_ble_eq_true rfl) rfl dX10_read_22 (fun H locs hP hD hS => ?_)
          have hP : va_P E.1 classes (WX10_read E q0 q0_inches q1 q1_signs i_length i_cycle a_inches i_p1_length i_p1_place i_p1_limit a_p1_signs) H := hP
          have hD : va_D A (WX10_read E q0 q0_inches q1 q1_signs i_length i_cycle a_inches i_p1_length i_p1_place i_p1_limit a_p1_signs) := hD
          obtain ⟨o9, hg10, hf⟩ := bd_some hf
          refine k_SI (As := [.int o7]) C K_RX10_27 (Nat.le_of_ble_eq_true rfl) (Nat.le_of_ble_eq_true rfl) (kX10_isWeather l E o7 o9 hg10) [] rfl rfl rfl  hP hD hS hA hl.1 (Nat.le_of_ble_eq_true rfl) rfl dX10_read_25 (fun H locs hP hD hS => ?_)
          have hP : va_P E.1 classes (WX10_read E q0 q0_inches q1 q1_signs i_length i_cycle a_inches i_p1_length i_p1_place i_p1_limit a_p1_signs) H := hP
          have hD : va_D A (WX10_read E q0 q0_inches q1 q1_signs i_length i_cycle a_inches i_p1_length i_p1_place i_p1_limit a_p1_signs) := hD
          refine lv_if_ne (tgt := 36) hx hb dX10_read_28 (by decide) (fun c11 => ?_) (fun c11 => ?_)
          · rw [if_neg c11] at hf
            refine lv_aload_n hx hb dX10_read_36 rfl (lv_at hl 1 rfl) ?_
            obtain ⟨o12, hg13, hf⟩ := bd_some hf
            refine k_VV (As := []) C K_RX10_34 (Nat.le_of_ble_eq_true rfl) (Nat.le_of_ble_eq_true rfl) (kX6_skip l E q1 q1_signs i_p1_length i_p1_place i_p1_limit o12 hg13) [2] rfl rfl rfl (ci := 6) rfl rfl (q0 := 0) rfl hP hD hS hA hl.1 (Nat.le_of_ble_eq_true rfl) rfl dX10_read_37 (fun H locs hP hD hS => ?_)
            have hP : va_P E.1 classes (WX10_read E q0 q0_inches q1 q1_signs i_length i_cycle a_inches i_p1_length o12 i_p1_limit a_p1_signs) H := hP
            have hD : va_D A (WX10_read E q0 q0_inches q1 q1_signs i_length i_cycle a_inches i_p1_length o12 i_p1_limit a_p1_signs) := hD
            refine lv_iinc (v := (v2 + 1)) (lv' := [(2, .int ((v2 + 1))), (0, .ref q0), (1, .ref q1)]) hx hb dX10_read_40 hl (k := 2) rfl rfl (by decide) rfl (fun ls hl => ?_)
            refine lv_goto (tgt := 8) hx hb dX10_read_43 (by decide) ?_
            exact ih ((v2 + 1)) o12 _ hf hE hR _ _ _ (lv_sub hl [1, 2, 0] rfl) hP hD hS
          · rw [if_pos c11] at hf
            refine lv_aload_n hx hb dX10_read_31 rfl (lv_at hl 1 rfl) ?_
            obtain ⟨o14, hg15, hf⟩ := bd_some hf
            refine k_VI (As := []) C K_RX10_31 (Nat.le_of_ble_eq_true rfl) (Nat.le_of_ble_eq_true rfl) (kX6_fault l E q1 q1_signs i_p1_length i_p1_place i_p1_limit o14 hg15) [2] rfl rfl rfl (ci := 6) rfl rfl (q0 := 0) rfl hP hD hS hA hl.1 (Nat.le_of_ble_eq_true rfl) rfl dX10_read_32 (fun H locs hP hD hS => ?_)
            have hP : va_P E.1 classes (WX10_read E q0 q0_inches q1 q1_signs i_length i_cycle a_inches i_p1_length i_p1_place i_p1_limit a_p1_signs) H := hP
            have hD : va_D A (WX10_read E q0 q0_inches q1 q1_signs i_length i_cycle a_inches i_p1_length i_p1_place i_p1_limit a_p1_signs) := hD
            have hf := Option.some.inj hf
            subst hf
            have hj0 := hR _ rfl
            obtain ⟨ha0, hj1⟩ := Prod.mk.inj hj0
            obtain ⟨ha1, hj2⟩ := Prod.mk.inj hj1
            obtain ⟨ha2, hj3⟩ := Prod.mk.inj hj2
            obtain ⟨ha3, hj4⟩ := Prod.mk.inj hj3
            obtain ⟨ha4, hj5⟩ := Prod.mk.inj hj4
            subst ha0
            subst ha1
            subst ha2
            subst ha3
            subst ha4
            subst hj5
            exact hret _ _ _ _ dX10_read_35 rfl hP hD hS
  have L78 : ∀ (i_cycle : Int32) (i_p1_limit : Int32), ∀ (n : Nat) (v2 : Int32) (i_length : Int32) (a_inches : Nat → Int32) (i_p1_place : Int32) (o : Int32 × (Nat → Int32) × Int32), fX10_read_L78 a_p1_signs i_p1_limit n v2 i_length a_inches i_p1_place = some o → (GO p l e 2 s m args below meth c Q E A 4 139 [] [(0, .ref q0)] (WX10_read E q0 q0_inches q1 q1_signs o.1 i_cycle o.2.1 i_p1_length o.2.2 i_p1_limit a_p1_signs)) → GO p l e 2 s m args below meth c Q E A 4 78 [] [(0, .ref q0), (1, .ref q1), (2, .int v2)] (WX10_read E q0 q0_inches q1 q1_signs i_length i_cycle a_inches i_p1_length i_p1_place i_p1_limit a_p1_signs) := by
    intro i_cycle i_p1_limit
    intro n
    induction n with
    | zero =>
      intro v2 i_length a_inches i_p1_place o hf
      have hf : none = some o := hf
      cases hf
    | succ n ih =>
      intro v2 i_length a_inches i_p1_place o hf hE
      have J118 : ∀ (v2 : Int32) (s0 : Int32) (s1 : Int32) (i_length : Int32) (a_inches : Nat → Int32) (i_p1_place : Int32), fX10_read_J118 (fX10_read_L78 a_p1_signs i_p1_limit n) v2 s0 s1 i_length a_inches i_p1_place = some o → GO p l e 2 s m args below meth c Q E A 4 118 [.int s0, .int s1, .ref q0_inches] [(0, .ref q0), (1, .ref q1), (2, .int v2)] (WX10_read E q0 q0_inches q1 q1_signs i_length i_cycle a_inches i_p1_length i_p1_place i_p1_limit a_p1_signs) := by
        intro v2 s0 s1 i_length a_inches i_p1_place hf H locs ls hl hP hD hS
        unfold fX10_read_J118 at hf
        obtain ⟨g32, hf⟩ := gd_some hf
        refine va_iast hx hb C.2.2.2.2.2.1 hP hD hS 1 0 rfl rfl (vin_in g32) dX10_read_118 (fun H locs hP hD hS => ?_)
        have hP : va_P E.1 classes (WX10_read E q0 q0_inches q1 q1_signs i_length i_cycle ((upd a_inches (s1 : Int32).toNatClampNeg s0)) i_p1_length i_p1_place i_p1_limit a_p1_signs) H := hP
        have hD : va_D A (WX10_read E q0 q0_inches q1 q1_signs i_length i_cycle ((upd a_inches (s1 : Int32).toNatClampNeg s0)) i_p1_length i_p1_place i_p1_limit a_p1_signs) := hD
        refine lv_aload_n hx hb dX10_read_119 rfl (lv_at hl 0 rfl) ?_
        refine lv_dup hx hb dX10_read_120 rfl ?_
        refine gf_RX10_41 C hP 0 rfl rfl dX10_read_121 ?_
        refine lv_iconst (v := 1) hx hb dX10_read_124 (by decide) ?_
        refine lv_iadd hx hb dX10_read_125 ?_
        refine pf_RX10_41 C hP hD hS 0 rfl (Nat.le_of_ble_eq_true rfl) dX10_read_126 (fun H locs hP hD hS => ?_)
        have hP : va_P E.1 classes (WX10_read E q0 q0_inches q1 q1_signs ((i_length + 1)) i_cycle ((upd a_inches (s1 : Int32).toNatClampNeg s0)) i_p1_length i_p1_place i_p1_limit a_p1_signs) H := hP
        have hD : va_D A (WX10_read E q0 q0_inches q1 q1_signs ((i_length + 1)) i_cycle ((upd a_inches (s1 : Int32).toNatClampNeg s0)) i_p1_length i_p1_place i_p1_limit a_p1_signs) := hD
        refine lv_aload_n hx hb dX10_read_129 rfl (lv_at hl 1 rfl) ?_
        obtain ⟨o33, hg34, hf⟩ := bd_some hf
        refine k_VV (As := []) C K_RX10_34 (Nat.le_of_ble_eq_true rfl) (Nat.le_of_ble_eq_true rfl) (kX6_skip l E q1 q1_signs i_p1_length i_p1_place i_p1_limit o33 hg34) [2] rfl rfl rfl (ci := 6) rfl rfl (q0 := 0) rfl hP hD hS hA hl.1 (Nat.le_of_ble_eq_true rfl) rfl dX10_read_130 (fun H locs hP hD hS => ?_)
        have hP : va_P E.1 classes (WX10_read E q0 q0_inches q1 q1_signs ((i_length + 1)) i_cycle ((upd a_inches (s1 : Int32).toNatClampNeg s0)) i_p1_length o33 i_p1_limit a_p1_signs) H := hP
        have hD : va_D A (WX10_read E q0 q0_inches q1 q1_signs ((i_length + 1)) i_cycle ((upd a_inches (s1 : Int32).toNatClampNeg s0)) i_p1_length o33 i_p1_limit a_p1_signs) := hD
        refine lv_iinc (v := (v2 + 1)) (lv' := [(2, .int ((v2 + 1))), (0, .ref q0), (1, .ref q1)]) hx hb dX10_read_133 hl (k := 2) rfl rfl (by decide) rfl (fun ls hl => ?_)
        refine lv_goto (tgt := 78) hx hb dX10_read_136 (by decide) ?_
        exact ih ((v2 + 1)) ((i_length + 1)) ((upd a_inches (s1 : Int32).toNatClampNeg s0)) o33 _ hf hE _ _ _ (lv_sub hl [1, 2, 0] rfl) hP hD hS
      intro H locs ls hl hP hD hS
      rw [fX10_read_L78] at hf
      refine lv_iload_n hx hb dX10_read_78 rfl (lv_at hl 2 rfl) ?_
      refine lv_bipush (v := 40) hx hb dX10_read_79 (by decide) ?_
      refine lv_icmp_ge (tgt := 139) hx hb dX10_read_81 (by decide) (fun c25 => ?_) (fun c25 => ?_)
      · rw [if_pos c25] at hf
        have hf := Option.some.inj hf
        subst hf
        exact hE _ _ _ (lv_sub hl [0] rfl) hP hD hS
      · rw [if_neg c25] at hf
        refine lv_aload_n hx hb dX10_read_84 rfl (lv_at hl 1 rfl) ?_
        obtain ⟨o26, hg27, hf⟩ := bd_some hf
        refine k_VI (As := []) C K_RX10_23 (Nat.le_of_ble_eq_true rfl) (Nat.le_of_ble_eq_true rfl) (kX6_peek l E q1 q1_signs i_p1_length i_p1_place i_p1_limit a_p1_signs o26 hg27) [2, 3] rfl rfl rfl (ci := 6) rfl rfl (q0 := 0) rfl hP hD hS hA hl.1 (Nat.le_of_ble_eq_true rfl) rfl dX10_read_85 (fun H locs hP hD hS => ?_)
        have hP : va_P E.1 classes (WX10_read E q0 q0_inches q1 q1_signs i_length i_cycle a_inches i_p1_length i_p1_place i_p1_limit a_p1_signs) H := hP
        have hD : va_D A (WX10_read E q0 q0_inches q1 q1_signs i_length i_cycle a_inches i_p1_length i_p1_place i_p1_limit a_p1_signs) := hD
        refine lv_if_lt (tgt := 139) hx hb dX10_read_88 (by decide) (fun c28 => ?_) (fun c28 => ?_)
        · rw [if_pos c28] at hf
          have hf := Option.some.inj hf
          subst hf
          exact hE _ _ _ (lv_sub hl [0] rfl) hP hD hS
        · rw [if_neg c28] at hf
          refine lv_aload_n hx hb dX10_read_91 rfl (lv_at hl 1 rfl) ?_
          obtain ⟨o29, hg30, hf⟩ := bd_some hf
          refine k_VI (As := []) C K_RX10_23 (Nat.le_of_ble_eq_true rfl) (Nat.le_of_ble_eq_true rfl) (kX6_peek l E q1 q1_signs i_p1_length i_p1_place i_p1_limit a_p1_signs o29 hg30) [2, 3] rfl rfl rfl (ci := 6) rfl rfl (q0 := 0) rfl hP hD hS hA hl.1 (Nat.le_of_ble_eq_true rfl) rfl dX10_read_92 (fun H locs hP hD hS => ?_)
          have hP : va_P E.1 classes (WX10_read E q0 q0_inches q1 q1_signs i_length i_cycle a_inches i_p1_length i_p1_place i_p1_limit a_p1_signs) H := hP
          have hD : va_D A (WX10_read E q0 q0_inches q1 q1_signs i_length i_cycle a_inches i_p1_length i_p1_place i_p1_limit a_p1_signs) := hD
          refine lv_istore_n (lv' := [(3, .int o29), (0, .ref q0), (1, .ref q1), (2, .int v2)]) hx hb dX10_read_95 rfl hl (by decide) rfl (fun ls hl => ?_)
          refine lv_aload_n hx hb dX10_read_96 rfl (lv_at hl 1 rfl) ?_
          refine gf_RX10_9 C hP 0 rfl rfl dX10_read_97 ?_
          refine lv_iload_n hx hb dX10_read_100 rfl (lv_at hl 3 rfl) ?_
          refine lv_iload_n hx hb dX10_read_101 rfl (lv_at hl 0 rfl) ?_
          refine lv_bipush (v := 57) hx hb dX10_read_102 (by decide) ?_
          refine lv_icmp_gt (tgt := 114) hx hb dX10_read_104 (by decide) (fun c31 => ?_) (fun c31 => ?_)
          · rw [if_pos c31] at hf
            refine lv_bipush (v := 96) hx hb dX10_read_114 (by decide) ?_
            refine lv_iload_n hx hb dX10_read_116 rfl (lv_at hl 0 rfl) ?_
            refine lv_isub hx hb dX10_read_117 ?_
            exact J118 v2 ((96 - o29)) v2 i_length a_inches i_p1_place hf _ _ _ (lv_sub hl [1, 2, 3] rfl) hP hD hS
          · rw [if_neg c31] at hf
            refine lv_iload_n hx hb dX10_read_107 rfl (lv_at hl 0 rfl) ?_
            refine lv_bipush (v := 48) hx hb dX10_read_108 (by decide) ?_
            refine lv_isub hx hb dX10_read_110 ?_
            refine lv_goto (tgt := 118) hx hb dX10_read_111 (by decide) ?_
            exact J118 v2 ((o29 - 48)) v2 i_length a_inches i_p1_place hf _ _ _ (lv_sub hl [1, 2, 3] rfl) hP hD hS
  have J139 : ∀ (i_length : Int32) (i_cycle : Int32) (a_inches : Nat → Int32) (i_p1_place : Int32) (i_p1_limit : Int32), fX10_read_J139 i_length a_inches i_p1_place i_p1_limit = some (r9, i_length9, i_cycle9, a_inches9, i_p1_place9, i_p1_limit9) → GO p l e 2 s m args below meth c Q E A 4 139 [] [(0, .ref q0)] (WX10_read E q0 q0_inches q1 q1_signs i_length i_cycle a_inches i_p1_length i_p1_place i_p1_limit a_p1_signs) := by
    intro i_length i_cycle a_inches i_p1_place i_p1_limit hf H locs ls hl hP hD hS
    unfold fX10_read_J139 at hf
    refine lv_aload_n hx hb dX10_read_139 rfl (lv_at hl 0 rfl) ?_
    refine lv_iconst (v := 1) hx hb dX10_read_140 (by decide) ?_
    refine lv_aload_n hx hb dX10_read_141 rfl (lv_at hl 0 rfl) ?_
    refine gf_RX10_41 C hP 0 rfl rfl dX10_read_142 ?_
    refine r_max C q560 (Nat.le_of_ble_eq_true rfl) hl.1 (Nat.le_of_ble_eq_true rfl) dX10_read_145 ?_
    refine pf_RX10_13 C hP hD hS 0 rfl (Nat.le_of_ble_eq_true rfl) dX10_read_148 (fun H locs hP hD hS => ?_)
    have hP : va_P E.1 classes (WX10_read E q0 q0_inches q1 q1_signs i_length ((mx 1 i_length)) a_inches i_p1_length i_p1_place i_p1_limit a_p1_signs) H := hP
    have hD : va_D A (WX10_read E q0 q0_inches q1 q1_signs i_length ((mx 1 i_length)) a_inches i_p1_length i_p1_place i_p1_limit a_p1_signs) := hD
    refine lv_aload_n hx hb dX10_read_151 rfl (lv_at hl 0 rfl) ?_
    refine gf_RX10_41 C hP 0 rfl rfl dX10_read_152 ?_
    have hj0 := Option.some.inj hf
    obtain ⟨ha0, hj1⟩ := Prod.mk.inj hj0
    obtain ⟨ha1, hj2⟩ := Prod.mk.inj hj1
    obtain ⟨ha2, hj3⟩ := Prod.mk.inj hj2
    obtain ⟨ha3, hj4⟩ := Prod.mk.inj hj3
    obtain ⟨ha4, hj5⟩ := Prod.mk.inj hj4
    subst ha0
    subst ha1
    subst ha2
    subst ha3
    subst ha4
    subst hj5
    exact hret _ _ _ _ dX10_read_155 rfl hP hD hS
  have J46 : ∀ (i_length : Int32) (i_cycle : Int32) (a_inches : Nat → Int32) (i_p1_place : Int32) (i_p1_limit : Int32), fX10_read_J46 i_p1_length a_p1_signs i_length i_cycle a_inches i_p1_place i_p1_limit = some (r9, i_length9, i_cycle9, a_inches9, i_p1_place9, i_p1_limit9) → GO p l e 2 s m args below meth c Q E A 4 46 [] [(0, .ref q0), (1, .ref q1)] (WX10_read E q0 q0_inches q1 q1_signs i_length i_cycle a_inches i_p1_length i_p1_place i_p1_limit a_p1_signs) := by
    intro i_length i_cycle a_inches i_p1_place i_p1_limit hf H locs ls hl hP hD hS
    unfold fX10_read_J46 at hf
    refine lv_aload_n hx hb dX10_read_46 rfl (lv_at hl 1 rfl) ?_
    obtain ⟨o19, hg20, hf⟩ := bd_some hf
    refine k_VI (As := []) C K_RX10_37 (Nat.le_of_ble_eq_true rfl) (Nat.le_of_ble_eq_true rfl) (kX6_isThrough l E q1 q1_signs i_p1_length i_p1_place i_p1_limit o19 hg20) [2] rfl rfl rfl (ci := 6) rfl rfl (q0 := 0) rfl hP hD hS hA hl.1 (Nat.le_of_ble_eq_true rfl) rfl dX10_read_47 (fun H locs hP hD hS => ?_)
    have hP : va_P E.1 classes (WX10_read E q0 q0_inches q1 q1_signs i_length i_cycle a_inches i_p1_length i_p1_place i_p1_limit a_p1_signs) H := hP
    have hD : va_D A (WX10_read E q0 q0_inches q1 q1_signs i_length i_cycle a_inches i_p1_length i_p1_place i_p1_limit a_p1_signs) := hD
    refine lv_if_ne (tgt := 58) hx hb dX10_read_50 (by decide) (fun c21 => ?_) (fun c21 => ?_)
    · rw [if_neg c21] at hf
      refine lv_aload_n hx hb dX10_read_58 rfl (lv_at hl 1 rfl) ?_
      refine lv_bipush (v := 40) hx hb dX10_read_59 (by decide) ?_
      obtain ⟨o22, hg23, hf⟩ := bd_some hf
      refine k_VV (As := [.int 40]) C K_RX10_17 (Nat.le_of_ble_eq_true rfl) (Nat.le_of_ble_eq_true rfl) (kX6_open l E q1 q1_signs i_p1_length i_p1_place i_p1_limit 40 o22.1 o22.2 hg23) [2] rfl rfl rfl (ci := 6) rfl rfl (q0 := 0) rfl hP hD hS hA hl.1 (Nat.le_of_ble_eq_true rfl) rfl dX10_read_61 (fun H locs hP hD hS => ?_)
      have hP : va_P E.1 classes (WX10_read E q0 q0_inches q1 q1_signs i_length i_cycle a_inches i_p1_length o22.1 o22.2 a_p1_signs) H := hP
      have hD : va_D A (WX10_read E q0 q0_inches q1 q1_signs i_length i_cycle a_inches i_p1_length o22.1 o22.2 a_p1_signs) := hD
      refine lv_aload_n hx hb dX10_read_64 rfl (lv_at hl 0 rfl) ?_
      refine lv_iconst (v := 0) hx hb dX10_read_65 (by decide) ?_
      refine pf_RX10_41 C hP hD hS 0 rfl (Nat.le_of_ble_eq_true rfl) dX10_read_66 (fun H locs hP hD hS => ?_)
      have hP : va_P E.1 classes (WX10_read E q0 q0_inches q1 q1_signs 0 i_cycle a_inches i_p1_length o22.1 o22.2 a_p1_signs) H := hP
      have hD : va_D A (WX10_read E q0 q0_inches q1 q1_signs 0 i_cycle a_inches i_p1_length o22.1 o22.2 a_p1_signs) := hD
      refine lv_aload_n hx hb dX10_read_69 rfl (lv_at hl 0 rfl) ?_
      refine gf_RX10_9 C hP 0 rfl rfl dX10_read_70 ?_
      refine lv_iconst (v := 0) hx hb dX10_read_73 (by decide) ?_
      refine lv_iconst (v := 0) hx hb dX10_read_74 (by decide) ?_
      obtain ⟨g24, hf⟩ := gd_some hf
      refine va_iast hx hb C.2.2.2.2.2.1 hP hD hS 1 0 rfl rfl (vin_in g24) dX10_read_75 (fun H locs hP hD hS => ?_)
      have hP : va_P E.1 classes (WX10_read E q0 q0_inches q1 q1_signs 0 i_cycle ((upd a_inches (0 : Int32).toNatClampNeg 0)) i_p1_length o22.1 o22.2 a_p1_signs) H := hP
      have hD : va_D A (WX10_read E q0 q0_inches q1 q1_signs 0 i_cycle ((upd a_inches (0 : Int32).toNatClampNeg 0)) i_p1_length o22.1 o22.2 a_p1_signs) := hD
      refine lv_iconst (v := 0) hx hb dX10_read_76 (by decide) ?_
      refine lv_istore_n (lv' := [(2, .int 0), (0, .ref q0), (1, .ref q1)]) hx hb dX10_read_77 rfl hl (by decide) rfl (fun ls hl => ?_)
      obtain ⟨o35, hg36, hf⟩ := bd_some hf
      refine L78 i_cycle o22.2 FU 0 0 ((upd a_inches (0 : Int32).toNatClampNeg 0)) o22.1 o35 hg36 ?_ _ _ _ (lv_sub hl [1, 2, 0] rfl) hP hD hS
      intro H locs ls hl hP hD hS
      exact J139 o35.1 i_cycle o35.2.1 o35.2.2 o22.2 hf _ _ _ (lv_sub hl [0] rfl) hP hD hS
    · rw [if_pos c21] at hf
      refine lv_aload_n hx hb dX10_read_53 rfl (lv_at hl 1 rfl) ?_
      obtain ⟨o37, hg38, hf⟩ := bd_some hf
      refine k_VI (As := []) C K_RX10_31 (Nat.le_of_ble_eq_true rfl) (Nat.le_of_ble_eq_true rfl) (kX6_fault l E q1 q1_signs i_p1_length i_p1_place i_p1_limit o37 hg38) [2] rfl rfl rfl (ci := 6) rfl rfl (q0 := 0) rfl hP hD hS hA hl.1 (Nat.le_of_ble_eq_true rfl) rfl dX10_read_54 (fun H locs hP hD hS => ?_)
      have hP : va_P E.1 classes (WX10_read E q0 q0_inches q1 q1_signs i_length i_cycle a_inches i_p1_length i_p1_place i_p1_limit a_p1_signs) H := hP
      have hD : va_D A (WX10_read E q0 q0_inches q1 q1_signs i_length i_cycle a_inches i_p1_length i_p1_place i_p1_limit a_p1_signs) := hD
      have hj0 := Option.some.inj hf
      obtain ⟨ha0, hj1⟩ := Prod.mk.inj hj0
      obtain ⟨ha1, hj2⟩ := Prod.mk.inj hj1
      obtain ⟨ha2, hj3⟩ := Prod.mk.inj hj2
      obtain ⟨ha3, hj4⟩ := Prod.mk.inj hj3
      obtain ⟨ha4, hj5⟩ := Prod.mk.inj hj4
      subst ha0
      subst ha1
      subst ha2
      subst ha3
      subst ha4
      subst hj5
      exact hret _ _ _ _ dX10_read_57 rfl hP hD hS
  intro H locs ls hl hP hD hS
  have hl : lv_has ls 4 [(0, .ref q0), (1, .ref q1)] := hl
  unfold fX10_read at hf
  refine lv_aload_n hx hb dX10_read_0 rfl (lv_at hl 1 rfl) ?_
  refine lv_bipush (v := 40) hx hb dX10_read_1 (by decide) ?_
  obtain ⟨o1, hg2, hf⟩ := bd_some hf
  refine k_VV (As := [.int 40]) C K_RX10_17 (Nat.le_of_ble_eq_true rfl) (Nat.le_of_ble_eq_true rfl) (kX6_open l E q1 q1_signs i_p1_length i_p1_place i_p1_limit 40 o1.1 o1.2 hg2) [2] rfl rfl rfl (ci := 6) rfl rfl (q0 := 0) rfl hP hD hS hA hl.1 (Nat.le_of_ble_eq_true rfl) rfl dX10_read_3 (fun H locs hP hD hS => ?_)
  have hP : va_P E.1 classes (WX10_read E q0 q0_inches q1 q1_signs i_length i_cycle a_inches i_p1_length o1.1 o1.2 a_p1_signs) H := hP
  have hD : va_D A (WX10_read E q0 q0_inches q1 q1_signs i_length i_cycle a_inches i_p1_length o1.1 o1.2 a_p1_signs) := hD
  refine lv_iconst (v := 0) hx hb dX10_read_6 (by decide) ?_
  refine lv_istore_n (lv' := [(2, .int 0), (0, .ref q0), (1, .ref q1)]) hx hb dX10_read_7 rfl hl (by decide) rfl (fun ls hl => ?_)
  obtain ⟨o16, hg17, hf⟩ := bd_some hf
  refine L8 i_length i_cycle a_inches o1.2 FU 0 o1.1 o16 hg17 ?_ ?_ _ _ _ (lv_sub hl [1, 2, 0] rfl) hP hD hS
  · intro x18 hxx
    rw [hxx, Sum.elim_inl] at hf
    intro H locs ls hl hP hD hS
    exact J46 i_length i_cycle a_inches x18 o1.2 hf _ _ _ (lv_sub hl [0, 1] rfl) hP hD hS
  · intro x hxx
    rw [hxx, Sum.elim_inr] at hf
    exact Option.some.inj hf
theorem q700 : Cond.methodLink RX10 50 Lib.Math.min.name ∈ Tg := Tg_mem 700 (by decide +kernel) (by decide +kernel)
theorem q701 : Cond.constant RX10 53 (1103515245 : Int32) ∈ Tg := Tg_mem 701 (by decide +kernel) (by decide +kernel)
theorem dX10_draw_0 : decode cX10_draw 0 = .ok (.iload_n 1, 1) := by decide +kernel
theorem dX10_draw_1 : decode cX10_draw 1 = .ok (.istore_n 3, 1) := by decide +kernel
theorem dX10_draw_2 : decode cX10_draw 2 = .ok (.iconst 0, 1) := by decide +kernel
theorem dX10_draw_3 : decode cX10_draw 3 = .ok (.istore 4, 2) := by decide +kernel
theorem dX10_draw_5 : decode cX10_draw 5 = .ok (.aload_n 0, 1) := by decide +kernel
theorem dX10_draw_6 : decode cX10_draw 6 = .ok (.iconst 1, 1) := by decide +kernel
theorem dX10_draw_7 : decode cX10_draw 7 = .ok (.iload_n 2, 1) := by decide +kernel
theorem dX10_draw_8 : decode cX10_draw 8 = .ok (.bipush 40, 2) := by decide +kernel
theorem dX10_draw_10 : decode cX10_draw 10 = .ok (.invokestatic 50, 3) := by decide +kernel
theorem dX10_draw_13 : decode cX10_draw 13 = .ok (.invokestatic 44, 3) := by decide +kernel
theorem dX10_draw_16 : decode cX10_draw 16 = .ok (.putfield 41, 3) := by decide +kernel
theorem dX10_draw_19 : decode cX10_draw 19 = .ok (.aload_n 0, 1) := by decide +kernel
theorem dX10_draw_20 : decode cX10_draw 20 = .ok (.aload_n 0, 1) := by decide +kernel
theorem dX10_draw_21 : decode cX10_draw 21 = .ok (.getfield 41, 3) := by decide +kernel
theorem dX10_draw_24 : decode cX10_draw 24 = .ok (.putfield 13, 3) := by decide +kernel
theorem dX10_draw_27 : decode cX10_draw 27 = .ok (.iconst 0, 1) := by decide +kernel
theorem dX10_draw_28 : decode cX10_draw 28 = .ok (.istore 5, 2) := by decide +kernel
theorem dX10_draw_30 : decode cX10_draw 30 = .ok (.iload 5, 2) := by decide +kernel
theorem dX10_draw_32 : decode cX10_draw 32 = .ok (.aload_n 0, 1) := by decide +kernel
theorem dX10_draw_33 : decode cX10_draw 33 = .ok (.getfield 41, 3) := by decide +kernel
theorem dX10_draw_36 : decode cX10_draw 36 = .ok (.if_icmp .ge 64, 3) := by decide +kernel
theorem dX10_draw_39 : decode cX10_draw 39 = .ok (.iload_n 3, 1) := by decide +kernel
theorem dX10_draw_40 : decode cX10_draw 40 = .ok (.ldc 53, 2) := by decide +kernel
theorem dX10_draw_42 : decode cX10_draw 42 = .ok (.imul, 1) := by decide +kernel
theorem dX10_draw_43 : decode cX10_draw 43 = .ok (.sipush 12345, 3) := by decide +kernel
theorem dX10_draw_46 : decode cX10_draw 46 = .ok (.iadd, 1) := by decide +kernel
theorem dX10_draw_47 : decode cX10_draw 47 = .ok (.istore_n 3, 1) := by decide +kernel
theorem dX10_draw_48 : decode cX10_draw 48 = .ok (.iload_n 3, 1) := by decide +kernel
theorem dX10_draw_49 : decode cX10_draw 49 = .ok (.bipush 16, 2) := by decide +kernel
theorem dX10_draw_51 : decode cX10_draw 51 = .ok (.iushr, 1) := by decide +kernel
theorem dX10_draw_52 : decode cX10_draw 52 = .ok (.bipush 16, 2) := by decide +kernel
theorem dX10_draw_54 : decode cX10_draw 54 = .ok (.irem, 1) := by decide +kernel
theorem dX10_draw_55 : decode cX10_draw 55 = .ok (.istore 6, 2) := by decide +kernel
theorem dX10_draw_57 : decode cX10_draw 57 = .ok (.aload_n 0, 1) := by decide +kernel
theorem dX10_draw_58 : decode cX10_draw 58 = .ok (.getfield 9, 3) := by decide +kernel
theorem dX10_draw_61 : decode cX10_draw 61 = .ok (.iload 5, 2) := by decide +kernel
theorem dX10_draw_63 : decode cX10_draw 63 = .ok (.iload 6, 2) := by decide +kernel
theorem dX10_draw_65 : decode cX10_draw 65 = .ok (.bipush 10, 2) := by decide +kernel
theorem dX10_draw_67 : decode cX10_draw 67 = .ok (.if_icmp .ge 8, 3) := by decide +kernel
theorem dX10_draw_70 : decode cX10_draw 70 = .ok (.iload 6, 2) := by decide +kernel
theorem dX10_draw_72 : decode cX10_draw 72 = .ok (.goto 8, 3) := by decide +kernel
theorem dX10_draw_75 : decode cX10_draw 75 = .ok (.bipush 9, 2) := by decide +kernel
theorem dX10_draw_77 : decode cX10_draw 77 = .ok (.iload 6, 2) := by decide +kernel
theorem dX10_draw_79 : decode cX10_draw 79 = .ok (.isub, 1) := by decide +kernel
theorem dX10_draw_80 : decode cX10_draw 80 = .ok (.iastore, 1) := by decide +kernel
theorem dX10_draw_81 : decode cX10_draw 81 = .ok (.aload_n 0, 1) := by decide +kernel
theorem dX10_draw_82 : decode cX10_draw 82 = .ok (.getfield 9, 3) := by decide +kernel
theorem dX10_draw_85 : decode cX10_draw 85 = .ok (.iload 5, 2) := by decide +kernel
theorem dX10_draw_87 : decode cX10_draw 87 = .ok (.iaload, 1) := by decide +kernel
theorem dX10_draw_88 : decode cX10_draw 88 = .ok (.ifCond .le 6, 3) := by decide +kernel
theorem dX10_draw_91 : decode cX10_draw 91 = .ok (.iinc 4 1, 3) := by decide +kernel
theorem dX10_draw_94 : decode cX10_draw 94 = .ok (.iinc 5 1, 3) := by decide +kernel
theorem dX10_draw_97 : decode cX10_draw 97 = .ok (.goto (-67), 3) := by decide +kernel
theorem dX10_draw_100 : decode cX10_draw 100 = .ok (.iload 4, 2) := by decide +kernel
theorem dX10_draw_102 : decode cX10_draw 102 = .ok (.ireturn, 1) := by decide +kernel
def WX10_draw (E : ENV) (q0 : Nat) (q0_inches : Nat) (i_length : Int32) (i_cycle : Int32) (a_inches : Nat → Int32) : va_W := [(q0, .inr (10, [.ref q0_inches, .int i_length, .int i_cycle])), (q0_inches, .inl (E.2.1, 40, .inl a_inches))]
set_option maxHeartbeats 4000000 in
set_option maxRecDepth 20000 in
theorem kX10_draw (l : Launch) (E : ENV) (q0 : Nat) (q0_inches : Nat) (i_length : Int32) (i_cycle : Int32) (a_inches : Nat → Int32) (p1 : Int32) (p2 : Int32) (r9 : Int32) (i_length9 : Int32) (i_cycle9 : Int32) (a_inches9 : Nat → Int32) (hf : fX10_draw i_length i_cycle a_inches p1 p2 = some (r9, i_length9, i_cycle9, a_inches9)) : CI l E yX10_draw cX10_draw 7 (some .int) 1 [.ref q0, .int p1, .int p2] (WX10_draw E q0 q0_inches i_length i_cycle a_inches) (WX10_draw E q0 q0_inches i_length9 i_cycle9 a_inches9) r9 := by
  refine begI (by decide +kernel) (Nat.le_of_ble_eq_true rfl) ?_
  intro p e s m args below meth c A Q C hA hret
  have hx := C.1
  have hb := C.2.1
  have L30 : ∀ (i_length : Int32) (i_cycle : Int32), ∀ (n : Nat) (v3 : Int32) (v4 : Int32) (v5 : Int32) (a_inches : Nat → Int32) (o : Int32 × (Nat → Int32)), fX10_draw_L30 i_length n v3 v4 v5 a_inches = some o → (GO p l e 1 s m args below meth c Q E A 7 100 [] [(4, .int o.1)] (WX10_draw E q0 q0_inches i_length i_cycle o.2)) → GO p l e 1 s m args below meth c Q E A 7 30 [] [(0, .ref q0), (3, .int v3), (4, .int v4), (5, .int v5)] (WX10_draw E q0 q0_inches i_length i_cycle a_inches) := by
    intro i_length i_cycle
    intro n
    induction n with
    | zero =>
      intro v3 v4 v5 a_inches o hf
      have hf : none = some o := hf
      cases hf
    | succ n ih =>
      intro v3 v4 v5 a_inches o hf hE
      have J80 : ∀ (v3 : Int32) (v4 : Int32) (v5 : Int32) (s0 : Int32) (s1 : Int32) (a_inches : Nat → Int32), fX10_draw_J80 (fX10_draw_L30 i_length n) v3 v4 v5 s0 s1 a_inches = some o → GO p l e 1 s m args below meth c Q E A 7 80 [.int s0, .int s1, .ref q0_inches] [(0, .ref q0), (3, .int v3), (4, .int v4), (5, .int v5)] (WX10_draw E q0 q0_inches i_length i_cycle a_inches) := by
        intro v3 v4 v5 s0 s1 a_inches hf H locs ls hl hP hD hS
        unfold fX10_draw_J80 at hf
        obtain ⟨g3, hf⟩ := gd_some hf
        refine va_iast hx hb C.2.2.2.2.2.1 hP hD hS 1 0 rfl rfl (vin_in g3) dX10_draw_80 (fun H locs hP hD hS => ?_)
        have hP : va_P E.1 classes (WX10_draw E q0 q0_inches i_length i_cycle ((upd a_inches (s1 : Int32).toNatClampNeg s0))) H := hP
        have hD : va_D A (WX10_draw E q0 q0_inches i_length i_cycle ((upd a_inches (s1 : Int32).toNatClampNeg s0))) := hD
        refine lv_aload_n hx hb dX10_draw_81 rfl (lv_at hl 0 rfl) ?_
        refine gf_RX10_9 C hP 0 rfl rfl dX10_draw_82 ?_
        refine lv_iload hx hb dX10_draw_85 (lv_at hl 3 rfl) ?_
        obtain ⟨g4, hf⟩ := gd_some hf
        refine va_iald hx hb C.2.2.2.2.2.1 hP 1 0 rfl rfl (vin_in g4) dX10_draw_87 ?_
        refine lv_if_le (tgt := 94) hx hb dX10_draw_88 (by decide) (fun c5 => ?_) (fun c5 => ?_)
        · rw [if_pos c5] at hf
          refine lv_iinc (v := (v5 + 1)) (lv' := [(5, .int ((v5 + 1))), (0, .ref q0), (3, .int v3), (4, .int v4)]) hx hb dX10_draw_94 hl (k := 3) rfl rfl (by decide) rfl (fun ls hl => ?_)
          refine lv_goto (tgt := 30) hx hb dX10_draw_97 (by decide) ?_
          exact ih v3 v4 ((v5 + 1)) ((upd a_inches (s1 : Int32).toNatClampNeg s0)) _ hf hE _ _ _ (lv_sub hl [1, 2, 3, 0] rfl) hP hD hS
        · rw [if_neg c5] at hf
          refine lv_iinc (v := (v4 + 1)) (lv' := [(4, .int ((v4 + 1))), (0, .ref q0), (3, .int v3), (5, .int v5)]) hx hb dX10_draw_91 hl (k := 2) rfl rfl (by decide) rfl (fun ls hl => ?_)
          refine lv_iinc (v := (v5 + 1)) (lv' := [(5, .int ((v5 + 1))), (4, .int ((v4 + 1))), (0, .ref q0), (3, .int v3)]) hx hb dX10_draw_94 hl (k := 3) rfl rfl (by decide) rfl (fun ls hl => ?_)
          refine lv_goto (tgt := 30) hx hb dX10_draw_97 (by decide) ?_
          exact ih v3 ((v4 + 1)) ((v5 + 1)) ((upd a_inches (s1 : Int32).toNatClampNeg s0)) _ hf hE _ _ _ (lv_sub hl [2, 3, 1, 0] rfl) hP hD hS
      intro H locs ls hl hP hD hS
      rw [fX10_draw_L30] at hf
      refine lv_iload hx hb dX10_draw_30 (lv_at hl 3 rfl) ?_
      refine lv_aload_n hx hb dX10_draw_32 rfl (lv_at hl 0 rfl) ?_
      refine gf_RX10_41 C hP 0 rfl rfl dX10_draw_33 ?_
      refine lv_icmp_ge (tgt := 100) hx hb dX10_draw_36 (by decide) (fun c1 => ?_) (fun c1 => ?_)
      · rw [if_pos c1] at hf
        have hf := Option.some.inj hf
        subst hf
        exact hE _ _ _ (lv_sub hl [2] rfl) hP hD hS
      · rw [if_neg c1] at hf
        refine lv_iload_n hx hb dX10_draw_39 rfl (lv_at hl 1 rfl) ?_
        refine lv_ldc hx hb C.2.2.2.1 (C.2.2.2.2.1 _ (List.mem_cons_of_mem _ q701)) dX10_draw_40 ?_
        refine lv_imul hx hb dX10_draw_42 ?_
        refine lv_sipush (v := 12345) hx hb dX10_draw_43 (by decide) ?_
        refine lv_iadd hx hb dX10_draw_46 ?_
        refine lv_istore_n (lv' := [(3, .int ((((v3 * 1103515245)) + 12345))), (0, .ref q0), (4, .int v4), (5, .int v5)]) hx hb dX10_draw_47 rfl hl (by decide) rfl (fun ls hl => ?_)
        refine lv_iload_n hx hb dX10_draw_48 rfl (lv_at hl 0 rfl) ?_
        refine lv_bipush (v := 16) hx hb dX10_draw_49 (by decide) ?_
        refine lv_iushr (v := (ush ((((v3 * 1103515245)) + 12345)) 16)) hx hb dX10_draw_51 rfl ?_
        refine lv_bipush (v := 16) hx hb dX10_draw_52 (by decide) ?_
        refine r_irem hx hb dX10_draw_54 (by decide) ?_
        refine lv_istore (lv' := [(6, .int ((rem ((ush ((((v3 * 1103515245)) + 12345)) 16)) 16))), (3, .int ((((v3 * 1103515245)) + 12345))), (0, .ref q0), (4, .int v4), (5, .int v5)]) hx hb dX10_draw_55 hl (by decide) rfl (fun ls hl => ?_)
        refine lv_aload_n hx hb dX10_draw_57 rfl (lv_at hl 2 rfl) ?_
        refine gf_RX10_9 C hP 0 rfl rfl dX10_draw_58 ?_
        refine lv_iload hx hb dX10_draw_61 (lv_at hl 4 rfl) ?_
        refine lv_iload hx hb dX10_draw_63 (lv_at hl 0 rfl) ?_
        refine lv_bipush (v := 10) hx hb dX10_draw_65 (by decide) ?_
        refine lv_icmp_ge (tgt := 75) hx hb dX10_draw_67 (by decide) (fun c2 => ?_) (fun c2 => ?_)
        · rw [if_pos c2] at hf
          refine lv_bipush (v := 9) hx hb dX10_draw_75 (by decide) ?_
          refine lv_iload hx hb dX10_draw_77 (lv_at hl 0 rfl) ?_
          refine lv_isub hx hb dX10_draw_79 ?_
          exact J80 ((((v3 * 1103515245)) + 12345)) v4 v5 ((9 - ((rem ((ush ((((v3 * 1103515245)) + 12345)) 16)) 16)))) v5 a_inches hf _ _ _ (lv_sub hl [2, 1, 3, 4] rfl) hP hD hS
        · rw [if_neg c2] at hf
          refine lv_iload hx hb dX10_draw_70 (lv_at hl 0 rfl) ?_
          refine lv_goto (tgt := 80) hx hb dX10_draw_72 (by decide) ?_
          exact J80 ((((v3 * 1103515245)) + 12345)) v4 v5 ((rem ((ush ((((v3 * 1103515245)) + 12345)) 16)) 16)) v5 a_inches hf _ _ _ (lv_sub hl [2, 1, 3, 4] rfl) hP hD hS
  intro H locs ls hl hP hD hS
  have hl : lv_has ls 7 [(0, .ref q0), (1, .int p1), (2, .int p2)] := hl
  unfold fX10_draw at hf
  refine lv_iload_n hx hb dX10_draw_0 rfl (lv_at hl 1 rfl) ?_
  refine lv_istore_n (lv' := [(3, .int p1), (0, .ref q0), (1, .int p1), (2, .int p2)]) hx hb dX10_draw_1 rfl hl (by decide) rfl (fun ls hl => ?_)
  refine lv_iconst (v := 0) hx hb dX10_draw_2 (by decide) ?_
  refine lv_istore (lv' := [(4, .int 0), (3, .int p1), (0, .ref q0), (1, .int p1), (2, .int p2)]) hx hb dX10_draw_3 hl (by decide) rfl (fun ls hl => ?_)
  refine lv_aload_n hx hb dX10_draw_5 rfl (lv_at hl 2 rfl) ?_
  refine lv_iconst (v := 1) hx hb dX10_draw_6 (by decide) ?_
  refine lv_iload_n hx hb dX10_draw_7 rfl (lv_at hl 4 rfl) ?_
  refine lv_bipush (v := 40) hx hb dX10_draw_8 (by decide) ?_
  refine r_min C q700 (Nat.le_of_ble_eq_true rfl) hl.1 (Nat.le_of_ble_eq_true rfl) dX10_draw_10 ?_
  refine r_max C q560 (Nat.le_of_ble_eq_true rfl) hl.1 (Nat.le_of_ble_eq_true rfl) dX10_draw_13 ?_
  refine pf_RX10_41 C hP hD hS 0 rfl (Nat.le_of_ble_eq_true rfl) dX10_draw_16 (fun H locs hP hD hS => ?_)
  have hP : va_P E.1 classes (WX10_draw E q0 q0_inches ((mx 1 ((mn p2 40)))) i_cycle a_inches) H := hP
  have hD : va_D A (WX10_draw E q0 q0_inches ((mx 1 ((mn p2 40)))) i_cycle a_inches) := hD
  refine lv_aload_n hx hb dX10_draw_19 rfl (lv_at hl 2 rfl) ?_
  refine lv_aload_n hx hb dX10_draw_20 rfl (lv_at hl 2 rfl) ?_
  refine gf_RX10_41 C hP 0 rfl rfl dX10_draw_21 ?_
  refine pf_RX10_13 C hP hD hS 0 rfl (Nat.le_of_ble_eq_true rfl) dX10_draw_24 (fun H locs hP hD hS => ?_)
  have hP : va_P E.1 classes (WX10_draw E q0 q0_inches ((mx 1 ((mn p2 40)))) ((mx 1 ((mn p2 40)))) a_inches) H := hP
  have hD : va_D A (WX10_draw E q0 q0_inches ((mx 1 ((mn p2 40)))) ((mx 1 ((mn p2 40)))) a_inches) := hD
  refine lv_iconst (v := 0) hx hb dX10_draw_27 (by decide) ?_
  refine lv_istore (lv' := [(5, .int 0), (4, .int 0), (3, .int p1), (0, .ref q0), (1, .int p1), (2, .int p2)]) hx hb dX10_draw_28 hl (by decide) rfl (fun ls hl => ?_)
  obtain ⟨o6, hg7, hf⟩ := bd_some hf
  refine L30 ((mx 1 ((mn p2 40)))) ((mx 1 ((mn p2 40)))) FU p1 0 0 a_inches o6 hg7 ?_ _ _ _ (lv_sub hl [3, 2, 1, 0] rfl) hP hD hS
  intro H locs ls hl hP hD hS
  refine lv_iload hx hb dX10_draw_100 (lv_at hl 0 rfl) ?_
  have hj0 := Option.some.inj hf
  obtain ⟨ha0, hj1⟩ := Prod.mk.inj hj0
  obtain ⟨ha1, hj2⟩ := Prod.mk.inj hj1
  obtain ⟨ha2, hj3⟩ := Prod.mk.inj hj2
  subst ha0
  subst ha1
  subst ha2
  subst hj3
  exact hret _ _ _ _ dX10_draw_102 rfl hP hD hS
theorem q1071 : Cond.constant RJ6 265 (1431655765 : Int32) ∈ Tg := Tg_mem 1071 (by decide +kernel) (by decide +kernel)
theorem q1072 : Cond.constant RJ6 266 (858993459 : Int32) ∈ Tg := Tg_mem 1072 (by decide +kernel) (by decide +kernel)
theorem q1073 : Cond.constant RJ6 267 (252645135 : Int32) ∈ Tg := Tg_mem 1073 (by decide +kernel) (by decide +kernel)
theorem dJ6_bitCount_0f7a4_0 : decode cJ6_bitCount_0f7a4 0 = .ok (.iload_n 0, 1) := by decide +kernel
theorem dJ6_bitCount_0f7a4_1 : decode cJ6_bitCount_0f7a4 1 = .ok (.iload_n 0, 1) := by decide +kernel
theorem dJ6_bitCount_0f7a4_2 : decode cJ6_bitCount_0f7a4 2 = .ok (.iconst 1, 1) := by decide +kernel
theorem dJ6_bitCount_0f7a4_3 : decode cJ6_bitCount_0f7a4 3 = .ok (.iushr, 1) := by decide +kernel
theorem dJ6_bitCount_0f7a4_4 : decode cJ6_bitCount_0f7a4 4 = .ok (.ldc_w 265, 3) := by decide +kernel
theorem dJ6_bitCount_0f7a4_7 : decode cJ6_bitCount_0f7a4 7 = .ok (.iand, 1) := by decide +kernel
theorem dJ6_bitCount_0f7a4_8 : decode cJ6_bitCount_0f7a4 8 = .ok (.isub, 1) := by decide +kernel
theorem dJ6_bitCount_0f7a4_9 : decode cJ6_bitCount_0f7a4 9 = .ok (.istore_n 0, 1) := by decide +kernel
theorem dJ6_bitCount_0f7a4_10 : decode cJ6_bitCount_0f7a4 10 = .ok (.iload_n 0, 1) := by decide +kernel
theorem dJ6_bitCount_0f7a4_11 : decode cJ6_bitCount_0f7a4 11 = .ok (.ldc_w 266, 3) := by decide +kernel
theorem dJ6_bitCount_0f7a4_14 : decode cJ6_bitCount_0f7a4 14 = .ok (.iand, 1) := by decide +kernel
theorem dJ6_bitCount_0f7a4_15 : decode cJ6_bitCount_0f7a4 15 = .ok (.iload_n 0, 1) := by decide +kernel
theorem dJ6_bitCount_0f7a4_16 : decode cJ6_bitCount_0f7a4 16 = .ok (.iconst 2, 1) := by decide +kernel
theorem dJ6_bitCount_0f7a4_17 : decode cJ6_bitCount_0f7a4 17 = .ok (.iushr, 1) := by decide +kernel
theorem dJ6_bitCount_0f7a4_18 : decode cJ6_bitCount_0f7a4 18 = .ok (.ldc_w 266, 3) := by decide +kernel
theorem dJ6_bitCount_0f7a4_21 : decode cJ6_bitCount_0f7a4 21 = .ok (.iand, 1) := by decide +kernel
theorem dJ6_bitCount_0f7a4_22 : decode cJ6_bitCount_0f7a4 22 = .ok (.iadd, 1) := by decide +kernel
theorem dJ6_bitCount_0f7a4_23 : decode cJ6_bitCount_0f7a4 23 = .ok (.istore_n 0, 1) := by decide +kernel
theorem dJ6_bitCount_0f7a4_24 : decode cJ6_bitCount_0f7a4 24 = .ok (.iload_n 0, 1) := by decide +kernel
theorem dJ6_bitCount_0f7a4_25 : decode cJ6_bitCount_0f7a4 25 = .ok (.iload_n 0, 1) := by decide +kernel
theorem dJ6_bitCount_0f7a4_26 : decode cJ6_bitCount_0f7a4 26 = .ok (.iconst 4, 1) := by decide +kernel
theorem dJ6_bitCount_0f7a4_27 : decode cJ6_bitCount_0f7a4 27 = .ok (.iushr, 1) := by decide +kernel
theorem dJ6_bitCount_0f7a4_28 : decode cJ6_bitCount_0f7a4 28 = .ok (.iadd, 1) := by decide +kernel
theorem dJ6_bitCount_0f7a4_29 : decode cJ6_bitCount_0f7a4 29 = .ok (.ldc_w 267, 3) := by decide +kernel
theorem dJ6_bitCount_0f7a4_32 : decode cJ6_bitCount_0f7a4 32 = .ok (.iand, 1) := by decide +kernel
theorem dJ6_bitCount_0f7a4_33 : decode cJ6_bitCount_0f7a4 33 = .ok (.istore_n 0, 1) := by decide +kernel
theorem dJ6_bitCount_0f7a4_34 : decode cJ6_bitCount_0f7a4 34 = .ok (.iload_n 0, 1) := by decide +kernel
theorem dJ6_bitCount_0f7a4_35 : decode cJ6_bitCount_0f7a4 35 = .ok (.iload_n 0, 1) := by decide +kernel
theorem dJ6_bitCount_0f7a4_36 : decode cJ6_bitCount_0f7a4 36 = .ok (.bipush 8, 2) := by decide +kernel
theorem dJ6_bitCount_0f7a4_38 : decode cJ6_bitCount_0f7a4 38 = .ok (.iushr, 1) := by decide +kernel
theorem dJ6_bitCount_0f7a4_39 : decode cJ6_bitCount_0f7a4 39 = .ok (.iadd, 1) := by decide +kernel
theorem dJ6_bitCount_0f7a4_40 : decode cJ6_bitCount_0f7a4 40 = .ok (.istore_n 0, 1) := by decide +kernel
theorem dJ6_bitCount_0f7a4_41 : decode cJ6_bitCount_0f7a4 41 = .ok (.iload_n 0, 1) := by decide +kernel
theorem dJ6_bitCount_0f7a4_42 : decode cJ6_bitCount_0f7a4 42 = .ok (.iload_n 0, 1) := by decide +kernel
theorem dJ6_bitCount_0f7a4_43 : decode cJ6_bitCount_0f7a4 43 = .ok (.bipush 16, 2) := by decide +kernel
theorem dJ6_bitCount_0f7a4_45 : decode cJ6_bitCount_0f7a4 45 = .ok (.iushr, 1) := by decide +kernel
theorem dJ6_bitCount_0f7a4_46 : decode cJ6_bitCount_0f7a4 46 = .ok (.iadd, 1) := by decide +kernel
theorem dJ6_bitCount_0f7a4_47 : decode cJ6_bitCount_0f7a4 47 = .ok (.istore_n 0, 1) := by decide +kernel
theorem dJ6_bitCount_0f7a4_48 : decode cJ6_bitCount_0f7a4 48 = .ok (.iload_n 0, 1) := by decide +kernel
theorem dJ6_bitCount_0f7a4_49 : decode cJ6_bitCount_0f7a4 49 = .ok (.bipush 63, 2) := by decide +kernel
theorem dJ6_bitCount_0f7a4_51 : decode cJ6_bitCount_0f7a4 51 = .ok (.iand, 1) := by decide +kernel
theorem dJ6_bitCount_0f7a4_52 : decode cJ6_bitCount_0f7a4 52 = .ok (.ireturn, 1) := by decide +kernel
def WJ6_bitCount_0f7a4 (E : ENV)  : va_W := []
set_option maxHeartbeats 4000000 in
set_option maxRecDepth 20000 in
theorem kJ6_bitCount_0f7a4 (l : Launch) (E : ENV) (p0 : Int32) (r9 : Int32) (hf : fJ6_bitCount_0f7a4 p0 = some r9) : CI l E yJ6_bitCount_0f7a4 cJ6_bitCount_0f7a4 1 (some .int) 0 [.int p0] (WJ6_bitCount_0f7a4 E) (WJ6_bitCount_0f7a4 E) r9 := by
  refine begI (by decide +kernel) (Nat.le_of_ble_eq_true rfl) ?_
  intro p e s m args below meth c A Q C hA hret
  have hx := C.1
  have hb := C.2.1
  intro H locs ls hl hP hD hS
  have hl : lv_has ls 1 [(0, .int p0)] := hl
  unfold fJ6_bitCount_0f7a4 at hf
  refine lv_iload_n hx hb dJ6_bitCount_0f7a4_0 rfl (lv_at hl 0 rfl) ?_
  refine lv_iload_n hx hb dJ6_bitCount_0f7a4_1 rfl (lv_at hl 0 rfl) ?_
  refine lv_iconst (v := 1) hx hb dJ6_bitCount_0f7a4_2 (by decide) ?_
  refine lv_iushr (v := (ush p0 1)) hx hb dJ6_bitCount_0f7a4_3 rfl ?_
  refine lv_ldcw hx hb C.2.2.2.1 (C.2.2.2.2.1 _ (List.mem_cons_of_mem _ q1071)) dJ6_bitCount_0f7a4_4 ?_
  refine lv_iand hx hb dJ6_bitCount_0f7a4_7 ?_
  refine lv_isub hx hb dJ6_bitCount_0f7a4_8 ?_
  refine lv_istore_n (lv' := [(0, .int ((p0 - ((((ush p0 1)) &&& 1431655765)))))]) hx hb dJ6_bitCount_0f7a4_9 rfl hl (by decide) rfl (fun ls hl => ?_)
  refine lv_iload_n hx hb dJ6_bitCount_0f7a4_10 rfl (lv_at hl 0 rfl) ?_
  refine lv_ldcw hx hb C.2.2.2.1 (C.2.2.2.2.1 _ (List.mem_cons_of_mem _ q1072)) dJ6_bitCount_0f7a4_11 ?_
  refine lv_iand hx hb dJ6_bitCount_0f7a4_14 ?_
  refine lv_iload_n hx hb dJ6_bitCount_0f7a4_15 rfl (lv_at hl 0 rfl) ?_
  refine lv_iconst (v := 2) hx hb dJ6_bitCount_0f7a4_16 (by decide) ?_
  refine lv_iushr (v := (ush ((p0 - ((((ush p0 1)) &&& 1431655765)))) 2)) hx hb dJ6_bitCount_0f7a4_17 rfl ?_
  refine lv_ldcw hx hb C.2.2.2.1 (C.2.2.2.2.1 _ (List.mem_cons_of_mem _ q1072)) dJ6_bitCount_0f7a4_18 ?_
  refine lv_iand hx hb dJ6_bitCount_0f7a4_21 ?_
  refine lv_iadd hx hb dJ6_bitCount_0f7a4_22 ?_
  refine lv_istore_n (lv' := [(0, .int ((((((p0 - ((((ush p0 1)) &&& 1431655765)))) &&& 858993459)) + ((((ush ((p0 - ((((ush p0 1)) &&& 1431655765)))) 2)) &&& 858993459)))))]) hx hb dJ6_bitCount_0f7a4_23 rfl hl (by decide) rfl (fun ls hl => ?_)
  refine lv_iload_n hx hb dJ6_bitCount_0f7a4_24 rfl (lv_at hl 0 rfl) ?_
  refine lv_iload_n hx hb dJ6_bitCount_0f7a4_25 rfl (lv_at hl 0 rfl) ?_
  refine lv_iconst (v := 4) hx hb dJ6_bitCount_0f7a4_26 (by decide) ?_
  refine lv_iushr (v := (ush ((((((p0 - ((((ush p0 1)) &&& 1431655765)))) &&& 858993459)) + ((((ush ((p0 - ((((ush p0 1)) &&& 1431655765)))) 2)) &&& 858993459)))) 4)) hx hb dJ6_bitCount_0f7a4_27 rfl ?_
  refine lv_iadd hx hb dJ6_bitCount_0f7a4_28 ?_
  refine lv_ldcw hx hb C.2.2.2.1 (C.2.2.2.2.1 _ (List.mem_cons_of_mem _ q1073)) dJ6_bitCount_0f7a4_29 ?_
  refine lv_iand hx hb dJ6_bitCount_0f7a4_32 ?_
  refine lv_istore_n (lv' := [(0, .int ((((((((((p0 - ((((ush p0 1)) &&& 1431655765)))) &&& 858993459)) + ((((ush ((p0 - ((((ush p0 1)) &&& 1431655765)))) 2)) &&& 858993459)))) + ((ush ((((((p0 - ((((ush p0 1)) &&& 1431655765)))) &&& 858993459)) + ((((ush ((p0 - ((((ush p0 1)) &&& 1431655765)))) 2)) &&& 858993459)))) 4)))) &&& 252645135)))]) hx hb dJ6_bitCount_0f7a4_33 rfl hl (by decide) rfl (fun ls hl => ?_)
  refine lv_iload_n hx hb dJ6_bitCount_0f7a4_34 rfl (lv_at hl 0 rfl) ?_
  refine lv_iload_n hx hb dJ6_bitCount_0f7a4_35 rfl (lv_at hl 0 rfl) ?_
  refine lv_bipush (v := 8) hx hb dJ6_bitCount_0f7a4_36 (by decide) ?_
  refine lv_iushr (v := (ush ((((((((((p0 - ((((ush p0 1)) &&& 1431655765)))) &&& 858993459)) + ((((ush ((p0 - ((((ush p0 1)) &&& 1431655765)))) 2)) &&& 858993459)))) + ((ush ((((((p0 - ((((ush p0 1)) &&& 1431655765)))) &&& 858993459)) + ((((ush ((p0 - ((((ush p0 1)) &&& 1431655765)))) 2)) &&& 858993459)))) 4)))) &&& 252645135)) 8)) hx hb dJ6_bitCount_0f7a4_38 rfl ?_
  refine lv_iadd hx hb dJ6_bitCount_0f7a4_39 ?_
  refine lv_istore_n (lv' := [(0, .int ((((((((((((p0 - ((((ush p0 1)) &&& 1431655765)))) &&& 858993459)) + ((((ush ((p0 - ((((ush p0 1)) &&& 1431655765)))) 2)) &&& 858993459)))) + ((ush ((((((p0 - ((((ush p0 1)) &&& 1431655765)))) &&& 858993459)) + ((((ush ((p0 - ((((ush p0 1)) &&& 1431655765)))) 2)) &&& 858993459)))) 4)))) &&& 252645135)) + ((ush ((((((((((p0 - ((((ush p0 1)) &&& 1431655765)))) &&& 858993459)) + ((((ush ((p0 - ((((ush p0 1)) &&& 1431655765)))) 2)) &&& 858993459)))) + ((ush ((((((p0 - ((((ush p0 1)) &&& 1431655765)))) &&& 858993459)) + ((((ush ((p0 - ((((ush p0 1)) &&& 1431655765)))) 2)) &&& 858993459)))) 4)))) &&& 252645135)) 8)))))]) hx hb dJ6_bitCount_0f7a4_40 rfl hl (by decide) rfl (fun ls hl => ?_)
  refine lv_iload_n hx hb dJ6_bitCount_0f7a4_41 rfl (lv_at hl 0 rfl) ?_
  refine lv_iload_n hx hb dJ6_bitCount_0f7a4_42 rfl (lv_at hl 0 rfl) ?_
  refine lv_bipush (v := 16) hx hb dJ6_bitCount_0f7a4_43 (by decide) ?_
  refine lv_iushr (v := (ush ((((((((((((p0 - ((((ush p0 1)) &&& 1431655765)))) &&& 858993459)) + ((((ush ((p0 - ((((ush p0 1)) &&& 1431655765)))) 2)) &&& 858993459)))) + ((ush ((((((p0 - ((((ush p0 1)) &&& 1431655765)))) &&& 858993459)) + ((((ush ((p0 - ((((ush p0 1)) &&& 1431655765)))) 2)) &&& 858993459)))) 4)))) &&& 252645135)) + ((ush ((((((((((p0 - ((((ush p0 1)) &&& 1431655765)))) &&& 858993459)) + ((((ush ((p0 - ((((ush p0 1)) &&& 1431655765)))) 2)) &&& 858993459)))) + ((ush ((((((p0 - ((((ush p0 1)) &&& 1431655765)))) &&& 858993459)) + ((((ush ((p0 - ((((ush p0 1)) &&& 1431655765)))) 2)) &&& 858993459)))) 4)))) &&& 252645135)) 8)))) 16)) hx hb dJ6_bitCount_0f7a4_45 rfl ?_
  refine lv_iadd hx hb dJ6_bitCount_0f7a4_46 ?_
  refine lv_istore_n (lv' := [(0, .int ((((((((((((((p0 - ((((ush p0 1)) &&& 1431655765)))) &&& 858993459)) + ((((ush ((p0 - ((((ush p0 1)) &&& 1431655765)))) 2)) &&& 858993459)))) + ((ush ((((((p0 - ((((ush p0 1)) &&& 1431655765)))) &&& 858993459)) + ((((ush ((p0 - ((((ush p0 1)) &&& 1431655765)))) 2)) &&& 858993459)))) 4)))) &&& 252645135)) + ((ush ((((((((((p0 - ((((ush p0 1)) &&& 1431655765)))) &&& 858993459)) + ((((ush ((p0 - ((((ush p0 1)) &&& 1431655765)))) 2)) &&& 858993459)))) + ((ush ((((((p0 - ((((ush p0 1)) &&& 1431655765)))) &&& 858993459)) + ((((ush ((p0 - ((((ush p0 1)) &&& 1431655765)))) 2)) &&& 858993459)))) 4)))) &&& 252645135)) 8)))) + ((ush ((((((((((((p0 - ((((ush p0 1)) &&& 1431655765)))) &&& 858993459)) + ((((ush ((p0 - ((((ush p0 1)) &&& 1431655765)))) 2)) &&& 858993459)))) + ((ush ((((((p0 - ((((ush p0 1)) &&& 1431655765)))) &&& 858993459)) + ((((ush ((p0 - ((((ush p0 1)) &&& 1431655765)))) 2)) &&& 858993459)))) 4)))) &&& 252645135)) + ((ush ((((((((((p0 - ((((ush p0 1)) &&& 1431655765)))) &&& 858993459)) + ((((ush ((p0 - ((((ush p0 1)) &&& 1431655765)))) 2)) &&& 858993459)))) + ((ush ((((((p0 - ((((ush p0 1)) &&& 1431655765)))) &&& 858993459)) + ((((ush ((p0 - ((((ush p0 1)) &&& 1431655765)))) 2)) &&& 858993459)))) 4)))) &&& 252645135)) 8)))) 16)))))]) hx hb dJ6_bitCount_0f7a4_47 rfl hl (by decide) rfl (fun ls hl => ?_)
  refine lv_iload_n hx hb dJ6_bitCount_0f7a4_48 rfl (lv_at hl 0 rfl) ?_
  refine lv_bipush (v := 63) hx hb dJ6_bitCount_0f7a4_49 (by decide) ?_
  refine lv_iand hx hb dJ6_bitCount_0f7a4_51 ?_
  have hj0 := Option.some.inj hf
  subst hj0
  exact hret _ _ _ _ dJ6_bitCount_0f7a4_52 rfl hP hD hS
