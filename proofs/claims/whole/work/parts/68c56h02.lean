theorem dX1_costOf_0 : decode cX1_costOf 0 = .ok (.aload_n 0, 1) := by decide +kernel
theorem dX1_costOf_1 : decode cX1_costOf 1 = .ok (.getfield 31, 3) := by decide +kernel
theorem dX1_costOf_4 : decode cX1_costOf 4 = .ok (.ifCond .lt 24, 3) := by decide +kernel
theorem dX1_costOf_7 : decode cX1_costOf 7 = .ok (.aload_n 0, 1) := by decide +kernel
theorem dX1_costOf_8 : decode cX1_costOf 8 = .ok (.getfield 31, 3) := by decide +kernel
theorem dX1_costOf_11 : decode cX1_costOf 11 = .ok (.bipush 7, 2) := by decide +kernel
theorem dX1_costOf_13 : decode cX1_costOf 13 = .ok (.if_icmp .ge 15, 3) := by decide +kernel
theorem dX1_costOf_16 : decode cX1_costOf 16 = .ok (.aload_n 1, 1) := by decide +kernel
theorem dX1_costOf_17 : decode cX1_costOf 17 = .ok (.getfield 87, 3) := by decide +kernel
theorem dX1_costOf_20 : decode cX1_costOf 20 = .ok (.aload_n 0, 1) := by decide +kernel
theorem dX1_costOf_21 : decode cX1_costOf 21 = .ok (.getfield 31, 3) := by decide +kernel
theorem dX1_costOf_24 : decode cX1_costOf 24 = .ok (.iaload, 1) := by decide +kernel
theorem dX1_costOf_25 : decode cX1_costOf 25 = .ok (.goto 7, 3) := by decide +kernel
theorem dX1_costOf_28 : decode cX1_costOf 28 = .ok (.aload_n 1, 1) := by decide +kernel
theorem dX1_costOf_29 : decode cX1_costOf 29 = .ok (.getfield 90, 3) := by decide +kernel
theorem dX1_costOf_32 : decode cX1_costOf 32 = .ok (.ireturn, 1) := by decide +kernel
def WX1_costOf (E : ENV) (q0 : Nat) (q0_walks : Nat) (q0_chosen : Nat) (q0_bestRow : Nat) (q1 : Nat) (q1_town : Nat) (q1_weather : Nat) (q1_rule : Nat) (q1_state : Nat) (q1_owedBy : Nat) (i_house : Int32) (i_count : Int32) (i_inches : Int32) (i_fewest : Int32) (i_p1_owed : Int32) (i_p1_slides : Int32) (i_p1_struck : Int32) (i_p1_slid : Int32) (a_p1_owedBy : Nat → Int32) : va_W := [(q0, .inr (1, [.ref q0_walks, .ref q0_chosen, .ref q0_bestRow, .int i_house, .int i_count, .int i_inches, .int i_fewest])), (q1, .inr (9, [.ref q1_town, .ref q1_weather, .ref q1_rule, .ref q1_state, .ref q1_owedBy, .int i_p1_owed, .int i_p1_slides, .int i_p1_struck, .int i_p1_slid])), (q1_owedBy, .inl (E.2.1, 7, .inl a_p1_owedBy))]
set_option maxHeartbeats 4000000 in
set_option maxRecDepth 20000 in
theorem kX1_costOf (l : Launch) (E : ENV) (q0 : Nat) (q0_walks : Nat) (q0_chosen : Nat) (q0_bestRow : Nat) (q1 : Nat) (q1_town : Nat) (q1_weather : Nat) (q1_rule : Nat) (q1_state : Nat) (q1_owedBy : Nat) (i_house : Int32) (i_count : Int32) (i_inches : Int32) (i_fewest : Int32) (i_p1_owed : Int32) (i_p1_slides : Int32) (i_p1_struck : Int32) (i_p1_slid : Int32) (a_p1_owedBy : Nat → Int32) (r9 : Int32) (hf : fX1_costOf i_house i_p1_owed a_p1_owedBy = some r9) : CI l E yX1_costOf cX1_costOf 2 (some .int) 0 [.ref q0, .ref q1] (WX1_costOf E q0 q0_walks q0_chosen q0_bestRow q1 q1_town q1_weather q1_rule q1_state q1_owedBy i_house i_count i_inches i_fewest i_p1_owed i_p1_slides i_p1_struck i_p1_slid a_p1_owedBy) (WX1_costOf E q0 q0_walks q0_chosen q0_bestRow q1 q1_town q1_weather q1_rule q1_state q1_owedBy i_house i_count i_inches i_fewest i_p1_owed i_p1_slides i_p1_struck i_p1_slid a_p1_owedBy) r9 := by
  refine begI (by decide +kernel) (Nat.le_of_ble_eq_true rfl) ?_
  intro p e s m args below meth c A Q C hA hret
  have hx := C.1
  have hb := C.2.1
  intro H locs ls hl hP hD hS
  have hl : lv_has ls 2 [(0, .ref q0), (1, .ref q1)] := hl
  unfold fX1_costOf at hf
  refine lv_aload_n hx hb dX1_costOf_0 rfl (lv_at hl 0 rfl) ?_
  refine gf_RX1_31 C hP 0 rfl rfl dX1_costOf_1 ?_
  refine lv_if_lt (tgt := 28) hx hb dX1_costOf_4 (by decide) (fun c1 => ?_) (fun c1 => ?_)
  · rw [if_pos c1] at hf
    refine lv_aload_n hx hb dX1_costOf_28 rfl (lv_at hl 1 rfl) ?_
    refine gf_RX1_90 C hP 1 rfl rfl dX1_costOf_29 ?_
    have hj0 := Option.some.inj hf
    subst hj0
    exact hret _ _ _ _ dX1_costOf_32 rfl hP hD hS
  · rw [if_neg c1] at hf
    refine lv_aload_n hx hb dX1_costOf_7 rfl (lv_at hl 0 rfl) ?_
    refine gf_RX1_31 C hP 0 rfl rfl dX1_costOf_8 ?_
    refine lv_bipush (v := 7) hx hb dX1_costOf_11 (by decide) ?_
    refine lv_icmp_ge (tgt := 28) hx hb dX1_costOf_13 (by decide) (fun c2 => ?_) (fun c2 => ?_)
    · rw [if_pos c2] at hf
      refine lv_aload_n hx hb dX1_costOf_28 rfl (lv_at hl 1 rfl) ?_
      refine gf_RX1_90 C hP 1 rfl rfl dX1_costOf_29 ?_
      have hj0 := Option.some.inj hf
      subst hj0
      exact hret _ _ _ _ dX1_costOf_32 rfl hP hD hS
    · rw [if_neg c2] at hf
      refine lv_aload_n hx hb dX1_costOf_16 rfl (lv_at hl 1 rfl) ?_
      refine gf_RX1_87 C hP 1 rfl rfl dX1_costOf_17 ?_
      refine lv_aload_n hx hb dX1_costOf_20 rfl (lv_at hl 0 rfl) ?_
      refine gf_RX1_31 C hP 0 rfl rfl dX1_costOf_21 ?_
      obtain ⟨g3, hf⟩ := gd_some hf
      refine va_iald hx hb C.2.2.2.2.2.1 hP 2 0 rfl rfl (vin_in g3) dX1_costOf_24 ?_
      refine lv_goto (tgt := 32) hx hb dX1_costOf_25 (by decide) ?_
      have hj0 := Option.some.inj hf
      subst hj0
      exact hret _ _ _ _ dX1_costOf_32 rfl hP hD hS
theorem q250 : Cond.fieldLinkNest RX1 84 "SnowForSummer$State" "snow" "[I" "SnowForSummer" ∈ NL := NL_mem 250 (by decide +kernel) (by decide +kernel)
theorem gf_RX1_84 {p : Program} {l : Launch} {e : Env} {R : Room} {s : State} {m : MethodId} {args : Array Value} {below : List Frame} {meth : Method} {c : Code} {H : Heap} {locs : List Loc} {cells slots : Nat} {Q : State → Prop} {E : ENV} {cc : ByteArray} {n : Nat} {r : Option FieldType} {pc : Nat} {ls : Array Slot} {rest : List Value} {a : Nat} {ws : va_W} {nm ds : String} {fs : List Value} {A : Nat → Prop} {v : Value} (C : Cx E A ⟨RX1, nm, ds⟩ cc n r p s m args meth c) (hP : va_P E.1 classes ws H) (q0 : Nat) (he : ws[q0]? = some (a, .inr (5, fs))) (hv : fs[0]? = some v) (hdg : decode cc pc = .ok (.getfield 84, 3))
    (kk : W p l e R s m args below meth c H locs cells slots Q (F0 m (pc + 3) ls (v :: rest))) : W p l e R s m args below meth c H locs cells slots Q (F0 m pc ls (.ref a :: rest)) :=
  va_getN (C := RX5) (T := TX5) (N := 4) (Ts := wl ⟨RX1, nm, ds⟩ cc n r) C.1 C.2.1 C.2.2.2.2.1 (fun w h => List.mem_cons_of_mem _ (inT5 w h)) C.2.2.2.1 C.2.2.2.2.2.1 hP q0 he rfl 0 (by decide) (va_Nw.use rfl (C.2.2.2.2.2.2.2.2.1 _ q250)) (fun _ h9 => h9) hv hdg kk
