theorem dX11_ahead_0 : decode cX11_ahead 0 = .ok (.iload_n 1, 1) := by decide +kernel
theorem dX11_ahead_1 : decode cX11_ahead 1 = .ok (.iconst 0, 1) := by decide +kernel
theorem dX11_ahead_2 : decode cX11_ahead 2 = .ok (.bipush 60, 2) := by decide +kernel
theorem dX11_ahead_4 : decode cX11_ahead 4 = .ok (.invokestatic 128, 3) := by decide +kernel
theorem dX11_ahead_7 : decode cX11_ahead 7 = .ok (.ifCond .ne 5, 3) := by decide +kernel
theorem dX11_ahead_10 : decode cX11_ahead 10 = .ok (.iconst (-1), 1) := by decide +kernel
theorem dX11_ahead_11 : decode cX11_ahead 11 = .ok (.ireturn, 1) := by decide +kernel
theorem dX11_ahead_12 : decode cX11_ahead 12 = .ok (.aload_n 0, 1) := by decide +kernel
theorem dX11_ahead_13 : decode cX11_ahead 13 = .ok (.getfield 53, 3) := by decide +kernel
theorem dX11_ahead_16 : decode cX11_ahead 16 = .ok (.aload_n 0, 1) := by decide +kernel
theorem dX11_ahead_17 : decode cX11_ahead 17 = .ok (.getfield 49, 3) := by decide +kernel
theorem dX11_ahead_20 : decode cX11_ahead 20 = .ok (.getfield 148, 3) := by decide +kernel
theorem dX11_ahead_23 : decode cX11_ahead 23 = .ok (.iload_n 1, 1) := by decide +kernel
theorem dX11_ahead_24 : decode cX11_ahead 24 = .ok (.invokevirtual 331, 3) := by decide +kernel
theorem dX11_ahead_27 : decode cX11_ahead 27 = .ok (.aload_n 0, 1) := by decide +kernel
theorem dX11_ahead_28 : decode cX11_ahead 28 = .ok (.aload_n 0, 1) := by decide +kernel
theorem dX11_ahead_29 : decode cX11_ahead 29 = .ok (.getfield 53, 3) := by decide +kernel
theorem dX11_ahead_32 : decode cX11_ahead 32 = .ok (.getfield 226, 3) := by decide +kernel
theorem dX11_ahead_35 : decode cX11_ahead 35 = .ok (.invokevirtual 244, 3) := by decide +kernel
theorem dX11_ahead_38 : decode cX11_ahead 38 = .ok (.iconst 0, 1) := by decide +kernel
theorem dX11_ahead_39 : decode cX11_ahead 39 = .ok (.istore_n 2, 1) := by decide +kernel
theorem dX11_ahead_40 : decode cX11_ahead 40 = .ok (.iload_n 2, 1) := by decide +kernel
theorem dX11_ahead_41 : decode cX11_ahead 41 = .ok (.aload_n 0, 1) := by decide +kernel
theorem dX11_ahead_42 : decode cX11_ahead 42 = .ok (.getfield 19, 3) := by decide +kernel
theorem dX11_ahead_45 : decode cX11_ahead 45 = .ok (.getfield 179, 3) := by decide +kernel
theorem dX11_ahead_48 : decode cX11_ahead 48 = .ok (.if_icmp .ge 22, 3) := by decide +kernel
theorem dX11_ahead_51 : decode cX11_ahead 51 = .ok (.aload_n 0, 1) := by decide +kernel
theorem dX11_ahead_52 : decode cX11_ahead 52 = .ok (.aload_n 0, 1) := by decide +kernel
theorem dX11_ahead_53 : decode cX11_ahead 53 = .ok (.getfield 53, 3) := by decide +kernel
theorem dX11_ahead_56 : decode cX11_ahead 56 = .ok (.getfield 335, 3) := by decide +kernel
theorem dX11_ahead_59 : decode cX11_ahead 59 = .ok (.iload_n 2, 1) := by decide +kernel
theorem dX11_ahead_60 : decode cX11_ahead 60 = .ok (.iaload, 1) := by decide +kernel
theorem dX11_ahead_61 : decode cX11_ahead 61 = .ok (.invokevirtual 295, 3) := by decide +kernel
theorem dX11_ahead_64 : decode cX11_ahead 64 = .ok (.iinc 2 1, 3) := by decide +kernel
theorem dX11_ahead_67 : decode cX11_ahead 67 = .ok (.goto (-27), 3) := by decide +kernel
theorem dX11_ahead_70 : decode cX11_ahead 70 = .ok (.aload_n 0, 1) := by decide +kernel
theorem dX11_ahead_71 : decode cX11_ahead 71 = .ok (.getfield 53, 3) := by decide +kernel
theorem dX11_ahead_74 : decode cX11_ahead 74 = .ok (.getfield 215, 3) := by decide +kernel
theorem dX11_ahead_77 : decode cX11_ahead 77 = .ok (.ireturn, 1) := by decide +kernel
def WX11_ahead (E : ENV) (q0 : Nat) (q0_text : Nat) (q0_town : Nat) (q0_weather : Nat) (q0_rule : Nat) (q0_acts : Nat) (q0_real : Nat) (q0_trial : Nat) (q0_round : Nat) (q0_nights : Nat) (q0_before : Nat) (q0_history : Nat) (q0_kept : Nat) (q0_keptHouses : Nat) (q0_shortest : Nat) (q0_tracks : Nat) (q0_tally : Nat) (q0_told : Nat) (q0_real_state : Nat) (q0_real_owedBy : Nat) (q0_trial_state : Nat) (q0_trial_owedBy : Nat) (q0_trial_state_snow : Nat) (q0_trial_state_path : Nat) (q0_trial_state_debt : Nat) (q0_weather_inches : Nat) (q0_town_hold : Nat) (q0_town_below : Nat) (q0_town_hay : Nat) (q0_rule_code : Nat) (q0_rule_draft : Nat) (q0_rule_stack : Nat) (q0_rule_things : Nat) (q0_real_state_snow : Nat) (q0_real_state_path : Nat) (q0_real_state_debt : Nat) (i_toldCount : Int32) (i_real_owed : Int32) (i_real_slides : Int32) (i_real_struck : Int32) (i_real_slid : Int32) (i_trial_owed : Int32) (i_trial_slides : Int32) (i_trial_struck : Int32) (i_trial_slid : Int32) (i_trial_state_now : Int32) (i_weather_length : Int32) (i_weather_cycle : Int32) (i_town_houses : Int32) (i_rule_length : Int32) (i_rule_drafted : Int32) (i_real_state_now : Int32) (a_trial_state_snow : Nat → Int32) (a_trial_state_path : Nat → Int32) (a_trial_state_debt : Nat → Int32) (a_trial_owedBy : Nat → Int32) (a_weather_inches : Nat → Int32) (a_town_hold : Nat → Int32) (a_town_below : Nat → Int32) (a_rule_things : Nat → Int32) (a_rule_stack : Nat → Int32) (a_rule_code : Nat → Int32) (a_real_state_snow : Nat → Int32) (a_real_state_path : Nat → Int32) (a_real_state_debt : Nat → Int32) (a_told : Nat → Int32) : va_W := [(q0, .inr (11, [.ref q0_text, .ref q0_town, .ref q0_weather, .ref q0_rule, .ref q0_acts, .ref q0_real, .ref q0_trial, .ref q0_round, .ref q0_nights, .ref q0_before, .ref q0_history, .ref q0_kept, .ref q0_keptHouses, .ref q0_shortest, .ref q0_tracks, .ref q0_tally, .ref q0_told, .int i_toldCount])), (q0_real, .inr (9, [.ref q0_town, .ref q0_weather, .ref q0_rule, .ref q0_real_state, .ref q0_real_owedBy, .int i_real_owed, .int i_real_slides, .int i_real_struck, .int i_real_slid])), (q0_trial, .inr (9, [.ref q0_town, .ref q0_weather, .ref q0_rule, .ref q0_trial_state, .ref q0_trial_owedBy, .int i_trial_owed, .int i_trial_slides, .int i_trial_struck, .int i_trial_slid])), (q0_trial_state, .inr (5, [.ref q0_trial_state_snow, .ref q0_trial_state_path, .ref q0_trial_state_debt, .int i_trial_state_now])), (q0_weather, .inr (10, [.ref q0_weather_inches, .int i_weather_length, .int i_weather_cycle])), (q0_town, .inr (7, [.ref q0_town_hold, .ref q0_town_below, .ref q0_town_hay, .int i_town_houses])), (q0_rule, .inr (4, [.ref q0_rule_code, .ref q0_rule_draft, .ref q0_rule_stack, .ref q0_rule_things, .int i_rule_length, .int i_rule_drafted])), (q0_real_state, .inr (5, [.ref q0_real_state_snow, .ref q0_real_state_path, .ref q0_real_state_debt, .int i_real_state_now])), (q0_trial_state_snow, .inl (E.2.1, 14, .inl a_trial_state_snow)), (q0_trial_state_path, .inl (E.2.1, 7, .inl a_trial_state_path)), (q0_trial_state_debt, .inl (E.2.1, 49, .inl a_trial_state_debt)), (q0_trial_owedBy, .inl (E.2.1, 7, .inl a_trial_owedBy)), (q0_weather_inches, .inl (E.2.1, 40, .inl a_weather_inches)), (q0_town_hold, .inl (E.2.1, 7, .inl a_town_hold)), (q0_town_below, .inl (E.2.1, 14, .inl a_town_below)), (q0_rule_things, .inl (E.2.1, 8, .inl a_rule_things)), (q0_rule_stack, .inl (E.2.1, 40, .inl a_rule_stack)), (q0_rule_code, .inl (E.2.1, 40, .inl a_rule_code)), (q0_real_state_snow, .inl (E.2.1, 14, .inl a_real_state_snow)), (q0_real_state_path, .inl (E.2.1, 7, .inl a_real_state_path)), (q0_real_state_debt, .inl (E.2.1, 49, .inl a_real_state_debt)), (q0_told, .inl (E.2.1, 8, .inl a_told))]
set_option maxHeartbeats 4000000 in
set_option maxRecDepth 20000 in
theorem kX11_ahead (l : Launch) (E : ENV) (q0 : Nat) (q0_text : Nat) (q0_town : Nat) (q0_weather : Nat) (q0_rule : Nat) (q0_acts : Nat) (q0_real : Nat) (q0_trial : Nat) (q0_round : Nat) (q0_nights : Nat) (q0_before : Nat) (q0_history : Nat) (q0_kept : Nat) (q0_keptHouses : Nat) (q0_shortest : Nat) (q0_tracks : Nat) (q0_tally : Nat) (q0_told : Nat) (q0_real_state : Nat) (q0_real_owedBy : Nat) (q0_trial_state : Nat) (q0_trial_owedBy : Nat) (q0_trial_state_snow : Nat) (q0_trial_state_path : Nat) (q0_trial_state_debt : Nat) (q0_weather_inches : Nat) (q0_town_hold : Nat) (q0_town_below : Nat) (q0_town_hay : Nat) (q0_rule_code : Nat) (q0_rule_draft : Nat) (q0_rule_stack : Nat) (q0_rule_things : Nat) (q0_real_state_snow : Nat) (q0_real_state_path : Nat) (q0_real_state_debt : Nat) (i_toldCount : Int32) (i_real_owed : Int32) (i_real_slides : Int32) (i_real_struck : Int32) (i_real_slid : Int32) (i_trial_owed : Int32) (i_trial_slides : Int32) (i_trial_struck : Int32) (i_trial_slid : Int32) (i_trial_state_now : Int32) (i_weather_length : Int32) (i_weather_cycle : Int32) (i_town_houses : Int32) (i_rule_length : Int32) (i_rule_drafted : Int32) (i_real_state_now : Int32) (a_trial_state_snow : Nat → Int32) (a_trial_state_path : Nat → Int32) (a_trial_state_debt : Nat → Int32) (a_trial_owedBy : Nat → Int32) (a_weather_inches : Nat → Int32) (a_town_hold : Nat → Int32) (a_town_below : Nat → Int32) (a_rule_things : Nat → Int32) (a_rule_stack : Nat → Int32) (a_rule_code : Nat → Int32) (a_real_state_snow : Nat → Int32) (a_real_state_path : Nat → Int32) (a_real_state_debt : Nat → Int32) (a_told : Nat → Int32) (p1 : Int32) (o9 : Int32 × Int32 × Int32 × Int32 × Int32 × Int32 × Int32 × (Nat → Int32) × (Nat → Int32) × (Nat → Int32) × (Nat → Int32) × (Nat → Int32) × (Nat → Int32) × (Nat → Int32)) (hf : fX11_ahead i_toldCount i_trial_owed i_trial_slides i_trial_struck i_trial_slid i_trial_state_now i_weather_cycle i_town_houses i_rule_length i_real_state_now a_trial_state_snow a_trial_state_path a_trial_state_debt a_trial_owedBy a_weather_inches a_town_hold a_town_below a_rule_things a_rule_stack a_rule_code a_real_state_snow a_real_state_path a_real_state_debt a_told p1 = some o9) : CI l E yX11_ahead cX11_ahead 3 (some .int) 5 [.ref q0, .int p1] (WX11_ahead E q0 q0_text q0_town q0_weather q0_rule q0_acts q0_real q0_trial q0_round q0_nights q0_before q0_history q0_kept q0_keptHouses q0_shortest q0_tracks q0_tally q0_told q0_real_state q0_real_owedBy q0_trial_state q0_trial_owedBy q0_trial_state_snow q0_trial_state_path q0_trial_state_debt q0_weather_inches q0_town_hold q0_town_below q0_town_hay q0_rule_code q0_rule_draft q0_rule_stack q0_rule_things q0_real_state_snow q0_real_state_path q0_real_state_debt i_toldCount i_real_owed i_real_slides i_real_struck i_real_slid i_trial_owed i_trial_slides i_trial_struck i_trial_slid i_trial_state_now i_weather_length i_weather_cycle i_town_houses i_rule_length i_rule_drafted i_real_state_now a_trial_state_snow a_trial_state_path a_trial_state_debt a_trial_owedBy a_weather_inches a_town_hold a_town_below a_rule_things a_rule_stack a_rule_code a_real_state_snow a_real_state_path a_real_state_debt a_told) (WX11_ahead E q0 q0_text q0_town q0_weather q0_rule q0_acts q0_real q0_trial q0_round q0_nights q0_before q0_history q0_kept q0_keptHouses q0_shortest q0_tracks q0_tally q0_told q0_real_state q0_real_owedBy q0_trial_state q0_trial_owedBy q0_trial_state_snow q0_trial_state_path q0_trial_state_debt q0_weather_inches q0_town_hold q0_town_below q0_town_hay q0_rule_code q0_rule_draft q0_rule_stack q0_rule_things q0_real_state_snow q0_real_state_path q0_real_state_debt o9.2.1 i_real_owed i_real_slides i_real_struck i_real_slid o9.2.2.1 o9.2.2.2.1 o9.2.2.2.2.1 o9.2.2.2.2.2.1 o9.2.2.2.2.2.2.1 i_weather_length i_weather_cycle i_town_houses i_rule_length i_rule_drafted i_real_state_now o9.2.2.2.2.2.2.2.1 o9.2.2.2.2.2.2.2.2.1 o9.2.2.2.2.2.2.2.2.2.1 o9.2.2.2.2.2.2.2.2.2.2.1 a_weather_inches a_town_hold a_town_below o9.2.2.2.2.2.2.2.2.2.2.2.1 o9.2.2.2.2.2.2.2.2.2.2.2.2.1 a_rule_code a_real_state_snow a_real_state_path a_real_state_debt o9.2.2.2.2.2.2.2.2.2.2.2.2.2) o9.1 := by
  refine begI (by decide +kernel) (Nat.le_of_ble_eq_true rfl) ?_
  intro p e s m args below meth c A Q C hA hret
  have hx := C.1
  have hb := C.2.1
  have L40 : ∀ (i_trial_owed : Int32) (i_trial_slides : Int32) (i_trial_struck : Int32) (i_trial_slid : Int32) (i_trial_state_now : Int32) (a_trial_state_snow : Nat → Int32) (a_trial_state_path : Nat → Int32) (a_trial_state_debt : Nat → Int32) (a_trial_owedBy : Nat → Int32) (a_rule_things : Nat → Int32) (a_rule_stack : Nat → Int32), ∀ (n : Nat) (v2 : Int32) (i_toldCount : Int32) (a_told : Nat → Int32) (o : Int32 × (Nat → Int32)), fX11_ahead_L40 i_town_houses a_trial_owedBy n v2 i_toldCount a_told = some o → (GO p l e 5 s m args below meth c Q E A 3 70 [] [(0, .ref q0)] (WX11_ahead E q0 q0_text q0_town q0_weather q0_rule q0_acts q0_real q0_trial q0_round q0_nights q0_before q0_history q0_kept q0_keptHouses q0_shortest q0_tracks q0_tally q0_told q0_real_state q0_real_owedBy q0_trial_state q0_trial_owedBy q0_trial_state_snow q0_trial_state_path q0_trial_state_debt q0_weather_inches q0_town_hold q0_town_below q0_town_hay q0_rule_code q0_rule_draft q0_rule_stack q0_rule_things q0_real_state_snow q0_real_state_path q0_real_state_debt o.1 i_real_owed i_real_slides i_real_struck i_real_slid i_trial_owed i_trial_slides i_trial_struck i_trial_slid i_trial_state_now i_weather_length i_weather_cycle i_town_houses i_rule_length i_rule_drafted i_real_state_now a_trial_state_snow a_trial_state_path a_trial_state_debt a_trial_owedBy a_weather_inches a_town_hold a_town_below a_rule_things a_rule_stack a_rule_code a_real_state_snow a_real_state_path a_real_state_debt o.2)) → GO p l e 5 s m args below meth c Q E A 3 40 [] [(0, .ref q0), (2, .int v2)] (WX11_ahead E q0 q0_text q0_town q0_weather q0_rule q0_acts q0_real q0_trial q0_round q0_nights q0_before q0_history q0_kept q0_keptHouses q0_shortest q0_tracks q0_tally q0_told q0_real_state q0_real_owedBy q0_trial_state q0_trial_owedBy q0_trial_state_snow q0_trial_state_path q0_trial_state_debt q0_weather_inches q0_town_hold q0_town_below q0_town_hay q0_rule_code q0_rule_draft q0_rule_stack q0_rule_things q0_real_state_snow q0_real_state_path q0_real_state_debt i_toldCount i_real_owed i_real_slides i_real_struck i_real_slid i_trial_owed i_trial_slides i_trial_struck i_trial_slid i_trial_state_now i_weather_length i_weather_cycle i_town_houses i_rule_length i_rule_drafted i_real_state_now a_trial_state_snow a_trial_state_path a_trial_state_debt a_trial_owedBy a_weather_inches a_town_hold a_town_below a_rule_things a_rule_stack a_rule_code a_real_state_snow a_real_state_path a_real_state_debt a_told) := by
    intro i_trial_owed i_trial_slides i_trial_struck i_trial_slid i_trial_state_now a_trial_state_snow a_trial_state_path a_trial_state_debt a_trial_owedBy a_rule_things a_rule_stack
    intro n
    induction n with
    | zero =>
      intro v2 i_toldCount a_told o hf
      have hf : none = some o := hf
      cases hf
    | succ n ih =>
      intro v2 i_toldCount a_told o hf hE
      intro H locs ls hl hP hD hS
      rw [fX11_ahead_L40] at hf
      refine lv_iload_n hx hb dX11_ahead_40 rfl (lv_at hl 1 rfl) ?_
      refine lv_aload_n hx hb dX11_ahead_41 rfl (lv_at hl 0 rfl) ?_
      refine gf_RX11_19 C hP 0 rfl rfl dX11_ahead_42 ?_
      refine gf_RX11_179 C hP 5 rfl rfl dX11_ahead_45 ?_
      refine lv_icmp_ge (tgt := 70) hx hb dX11_ahead_48 (by decide) (fun c8 => ?_) (fun c8 => ?_)
      · rw [if_pos c8] at hf
        have hf := Option.some.inj hf
        subst hf
        exact hE _ _ _ (lv_sub hl [0] rfl) hP hD hS
      · rw [if_neg c8] at hf
        refine lv_aload_n hx hb dX11_ahead_51 rfl (lv_at hl 0 rfl) ?_
        refine lv_aload_n hx hb dX11_ahead_52 rfl (lv_at hl 0 rfl) ?_
        refine gf_RX11_53 C hP 0 rfl rfl dX11_ahead_53 ?_
        refine gf_RX11_335 C hP 2 rfl rfl dX11_ahead_56 ?_
        refine lv_iload_n hx hb dX11_ahead_59 rfl (lv_at hl 1 rfl) ?_
        obtain ⟨g9, hf⟩ := gd_some hf
        refine va_iald hx hb C.2.2.2.2.2.1 hP 11 0 rfl rfl (vin_in g9) dX11_ahead_60 ?_
        obtain ⟨o10, hg11, hf⟩ := bd_some hf
        refine k_VV2 (As := [.int ((a_trial_owedBy (v2 : Int32).toNatClampNeg))]) C K_RX11_295 (Nat.le_of_ble_eq_true rfl) (Nat.le_of_ble_eq_true rfl) (kX11_tellMore l E q0 q0_text q0_town q0_weather q0_rule q0_acts q0_real q0_trial q0_round q0_nights q0_before q0_history q0_kept q0_keptHouses q0_shortest q0_tracks q0_tally q0_told i_toldCount a_told ((a_trial_owedBy (v2 : Int32).toNatClampNeg)) o10 hg11) [0, 21] rfl rfl rfl (ci := 11) rfl rfl (q0 := 0) rfl hP hD hS hA hl.1 (Nat.le_of_ble_eq_true rfl) rfl dX11_ahead_61 (ws2 := (WX11_ahead E q0 q0_text q0_town q0_weather q0_rule q0_acts q0_real q0_trial q0_round q0_nights q0_before q0_history q0_kept q0_keptHouses q0_shortest q0_tracks q0_tally q0_told q0_real_state q0_real_owedBy q0_trial_state q0_trial_owedBy q0_trial_state_snow q0_trial_state_path q0_trial_state_debt q0_weather_inches q0_town_hold q0_town_below q0_town_hay q0_rule_code q0_rule_draft q0_rule_stack q0_rule_things q0_real_state_snow q0_real_state_path q0_real_state_debt o10.1 i_real_owed i_real_slides i_real_struck i_real_slid i_trial_owed i_trial_slides i_trial_struck i_trial_slid i_trial_state_now i_weather_length i_weather_cycle i_town_houses i_rule_length i_rule_drafted i_real_state_now a_trial_state_snow a_trial_state_path a_trial_state_debt a_trial_owedBy a_weather_inches a_town_hold a_town_below a_rule_things a_rule_stack a_rule_code a_real_state_snow a_real_state_path a_real_state_debt o10.2)) 22 [1, 2, 3, 4, 5, 6, 7, 8, 9, 10, 11, 12, 13, 14, 15, 16, 17, 18, 19, 20] rfl rfl rfl rfl (by decide +kernel) (fun H locs hP hD hS => ?_)
        refine lv_iinc (v := (v2 + 1)) (lv' := [(2, .int ((v2 + 1))), (0, .ref q0)]) hx hb dX11_ahead_64 hl (k := 1) rfl rfl (by decide) rfl (fun ls hl => ?_)
        refine lv_goto (tgt := 40) hx hb dX11_ahead_67 (by decide) ?_
        exact ih ((v2 + 1)) o10.1 o10.2 _ hf hE _ _ _ (lv_sub hl [1, 0] rfl) hP hD hS
  intro H locs ls hl hP hD hS
  have hl : lv_has ls 3 [(0, .ref q0), (1, .int p1)] := hl
  unfold fX11_ahead at hf
  refine lv_iload_n hx hb dX11_ahead_0 rfl (lv_at hl 1 rfl) ?_
  refine lv_iconst (v := 0) hx hb dX11_ahead_1 (by decide) ?_
  refine lv_bipush (v := 60) hx hb dX11_ahead_2 (by decide) ?_
  obtain ⟨o1, hg2, hf⟩ := bd_some hf
  refine k_SI2 (As := [.int p1, .int 0, .int 60]) C K_RX11_128 (Nat.le_of_ble_eq_true rfl) (Nat.le_of_ble_eq_true rfl) (kX11_isWithin l E p1 0 60 o1 hg2) [] rfl rfl rfl  hP hD hS hA hl.1 (Nat.le_of_ble_eq_true rfl) rfl dX11_ahead_4 (ws2 := (WX11_ahead E q0 q0_text q0_town q0_weather q0_rule q0_acts q0_real q0_trial q0_round q0_nights q0_before q0_history q0_kept q0_keptHouses q0_shortest q0_tracks q0_tally q0_told q0_real_state q0_real_owedBy q0_trial_state q0_trial_owedBy q0_trial_state_snow q0_trial_state_path q0_trial_state_debt q0_weather_inches q0_town_hold q0_town_below q0_town_hay q0_rule_code q0_rule_draft q0_rule_stack q0_rule_things q0_real_state_snow q0_real_state_path q0_real_state_debt i_toldCount i_real_owed i_real_slides i_real_struck i_real_slid i_trial_owed i_trial_slides i_trial_struck i_trial_slid i_trial_state_now i_weather_length i_weather_cycle i_town_houses i_rule_length i_rule_drafted i_real_state_now a_trial_state_snow a_trial_state_path a_trial_state_debt a_trial_owedBy a_weather_inches a_town_hold a_town_below a_rule_things a_rule_stack a_rule_code a_real_state_snow a_real_state_path a_real_state_debt a_told)) 22 [0, 1, 2, 3, 4, 5, 6, 7, 8, 9, 10, 11, 12, 13, 14, 15, 16, 17, 18, 19, 20, 21] rfl rfl rfl rfl (by decide +kernel) (fun H locs hP hD hS => ?_)
  refine lv_if_ne (tgt := 12) hx hb dX11_ahead_7 (by decide) (fun c3 => ?_) (fun c3 => ?_)
  · rw [if_neg c3] at hf
    refine lv_aload_n hx hb dX11_ahead_12 rfl (lv_at hl 0 rfl) ?_
    refine gf_RX11_53 C hP 0 rfl rfl dX11_ahead_13 ?_
    refine lv_aload_n hx hb dX11_ahead_16 rfl (lv_at hl 0 rfl) ?_
    refine gf_RX11_49 C hP 0 rfl rfl dX11_ahead_17 ?_
    refine gf_RX11_148 C hP 1 rfl rfl dX11_ahead_20 ?_
    refine lv_iload_n hx hb dX11_ahead_23 rfl (lv_at hl 1 rfl) ?_
    obtain ⟨o4, hg5, hf⟩ := bd_some hf
    refine k_VV2 (As := [.ref q0_real_state, .int p1]) C K_RX11_331 (Nat.le_of_ble_eq_true rfl) (Nat.le_of_ble_eq_true rfl) (kX9_walkFrom l E q0_trial q0_town q0_weather q0_rule q0_trial_state q0_trial_owedBy q0_trial_state_snow q0_trial_state_path q0_trial_state_debt q0_weather_inches q0_town_hold q0_town_below q0_town_hay q0_rule_code q0_rule_draft q0_rule_stack q0_rule_things q0_real_state q0_real_state_snow q0_real_state_path q0_real_state_debt i_trial_owed i_trial_slides i_trial_struck i_trial_slid i_trial_state_now a_trial_state_snow a_trial_state_path a_trial_state_debt a_trial_owedBy i_weather_length i_weather_cycle i_town_houses i_rule_length i_rule_drafted a_weather_inches a_town_hold a_town_below a_rule_things a_rule_stack a_rule_code i_real_state_now a_real_state_snow a_real_state_path a_real_state_debt p1 o4.1 o4.2.1 o4.2.2.1 o4.2.2.2.1 o4.2.2.2.2.1 o4.2.2.2.2.2.1 o4.2.2.2.2.2.2.1 o4.2.2.2.2.2.2.2.1 o4.2.2.2.2.2.2.2.2.1 o4.2.2.2.2.2.2.2.2.2.1 o4.2.2.2.2.2.2.2.2.2.2 hg5) [2, 3, 8, 9, 10, 11, 4, 5, 6, 12, 13, 14, 15, 16, 17, 7, 18, 19, 20] rfl rfl rfl (ci := 9) rfl rfl (q0 := 0) rfl hP hD hS hA hl.1 (Nat.le_of_ble_eq_true rfl) rfl dX11_ahead_24 (ws2 := (WX11_ahead E q0 q0_text q0_town q0_weather q0_rule q0_acts q0_real q0_trial q0_round q0_nights q0_before q0_history q0_kept q0_keptHouses q0_shortest q0_tracks q0_tally q0_told q0_real_state q0_real_owedBy q0_trial_state q0_trial_owedBy q0_trial_state_snow q0_trial_state_path q0_trial_state_debt q0_weather_inches q0_town_hold q0_town_below q0_town_hay q0_rule_code q0_rule_draft q0_rule_stack q0_rule_things q0_real_state_snow q0_real_state_path q0_real_state_debt i_toldCount i_real_owed i_real_slides i_real_struck i_real_slid o4.1 o4.2.1 o4.2.2.1 o4.2.2.2.1 o4.2.2.2.2.1 i_weather_length i_weather_cycle i_town_houses i_rule_length i_rule_drafted i_real_state_now o4.2.2.2.2.2.1 o4.2.2.2.2.2.2.1 o4.2.2.2.2.2.2.2.1 o4.2.2.2.2.2.2.2.2.1 a_weather_inches a_town_hold a_town_below o4.2.2.2.2.2.2.2.2.2.1 o4.2.2.2.2.2.2.2.2.2.2 a_rule_code a_real_state_snow a_real_state_path a_real_state_debt a_told)) 22 [0, 1, 21] rfl rfl rfl rfl (by decide +kernel) (fun H locs hP hD hS => ?_)
    refine lv_aload_n hx hb dX11_ahead_27 rfl (lv_at hl 0 rfl) ?_
    refine lv_aload_n hx hb dX11_ahead_28 rfl (lv_at hl 0 rfl) ?_
    refine gf_RX11_53 C hP 0 rfl rfl dX11_ahead_29 ?_
    refine gf_RX11_226 C hP 2 rfl rfl dX11_ahead_32 ?_
    obtain ⟨o6, hg7, hf⟩ := bd_some hf
    refine k_VV2 (As := [.int o4.2.1]) C K_RX11_244 (Nat.le_of_ble_eq_true rfl) (Nat.le_of_ble_eq_true rfl) (kX11_tell l E q0 q0_text q0_town q0_weather q0_rule q0_acts q0_real q0_trial q0_round q0_nights q0_before q0_history q0_kept q0_keptHouses q0_shortest q0_tracks q0_tally q0_told i_toldCount a_told o4.2.1 o6 hg7) [0, 21] rfl rfl rfl (ci := 11) rfl rfl (q0 := 0) rfl hP hD hS hA hl.1 (Nat.le_of_ble_eq_true rfl) rfl dX11_ahead_35 (ws2 := (WX11_ahead E q0 q0_text q0_town q0_weather q0_rule q0_acts q0_real q0_trial q0_round q0_nights q0_before q0_history q0_kept q0_keptHouses q0_shortest q0_tracks q0_tally q0_told q0_real_state q0_real_owedBy q0_trial_state q0_trial_owedBy q0_trial_state_snow q0_trial_state_path q0_trial_state_debt q0_weather_inches q0_town_hold q0_town_below q0_town_hay q0_rule_code q0_rule_draft q0_rule_stack q0_rule_things q0_real_state_snow q0_real_state_path q0_real_state_debt o6.1 i_real_owed i_real_slides i_real_struck i_real_slid o4.1 o4.2.1 o4.2.2.1 o4.2.2.2.1 o4.2.2.2.2.1 i_weather_length i_weather_cycle i_town_houses i_rule_length i_rule_drafted i_real_state_now o4.2.2.2.2.2.1 o4.2.2.2.2.2.2.1 o4.2.2.2.2.2.2.2.1 o4.2.2.2.2.2.2.2.2.1 a_weather_inches a_town_hold a_town_below o4.2.2.2.2.2.2.2.2.2.1 o4.2.2.2.2.2.2.2.2.2.2 a_rule_code a_real_state_snow a_real_state_path a_real_state_debt o6.2)) 22 [1, 2, 3, 4, 5, 6, 7, 8, 9, 10, 11, 12, 13, 14, 15, 16, 17, 18, 19, 20] rfl rfl rfl rfl (by decide +kernel) (fun H locs hP hD hS => ?_)
    refine lv_iconst (v := 0) hx hb dX11_ahead_38 (by decide) ?_
    refine lv_istore_n (lv' := [(2, .int 0), (0, .ref q0), (1, .int p1)]) hx hb dX11_ahead_39 rfl hl (by decide) rfl (fun ls hl => ?_)
    obtain ⟨o12, hg13, hf⟩ := bd_some hf
    refine L40 o4.1 o4.2.1 o4.2.2.1 o4.2.2.2.1 o4.2.2.2.2.1 o4.2.2.2.2.2.1 o4.2.2.2.2.2.2.1 o4.2.2.2.2.2.2.2.1 o4.2.2.2.2.2.2.2.2.1 o4.2.2.2.2.2.2.2.2.2.1 o4.2.2.2.2.2.2.2.2.2.2 FU 0 o6.1 o6.2 o12 hg13 ?_ _ _ _ (lv_sub hl [1, 0] rfl) hP hD hS
    intro H locs ls hl hP hD hS
    refine lv_aload_n hx hb dX11_ahead_70 rfl (lv_at hl 0 rfl) ?_
    refine gf_RX11_53 C hP 0 rfl rfl dX11_ahead_71 ?_
    refine gf_RX11_215 C hP 2 rfl rfl dX11_ahead_74 ?_
    have hj0 := Option.some.inj hf
    subst hj0
    exact hret _ _ _ _ dX11_ahead_77 rfl hP hD hS
  · rw [if_pos c3] at hf
    refine lv_iconst (v := (-1)) hx hb dX11_ahead_10 (by decide) ?_
    have hj0 := Option.some.inj hf
    subst hj0
    exact hret _ _ _ _ dX11_ahead_11 rfl hP hD hS
theorem K_RX11_337 : KV RX11 337 yX9_beginAt cX9_beginAt 2 none 1 := ⟨Tg_mem 1042 (by decide +kernel) (by decide +kernel), Tg_mem 96 (by decide +kernel) (by decide +kernel), Tg_mem 1049 (by decide +kernel) (by decide +kernel), Tg_mem 1040 (by decide +kernel) (by decide +kernel), Tg_mem 1041 (by decide +kernel) (by decide +kernel), by decide +kernel⟩
theorem K_RX11_340 : KV RX11 340 yX9_goDay cX9_goDay 5 none 0 := ⟨Tg_mem 787 (by decide +kernel) (by decide +kernel), Tg_mem 96 (by decide +kernel) (by decide +kernel), Tg_mem 1050 (by decide +kernel) (by decide +kernel), Tg_mem 785 (by decide +kernel) (by decide +kernel), Tg_mem 786 (by decide +kernel) (by decide +kernel), by decide +kernel⟩
theorem q288 : Cond.fieldLinkNest RX11 343 "SnowForSummer$Walk" "slid" "I" "SnowForSummer" ∈ NL := NL_mem 288 (by decide +kernel) (by decide +kernel)
theorem gf_RX11_343 {p : Program} {l : Launch} {e : Env} {R : Room} {s : State} {m : MethodId} {args : Array Value} {below : List Frame} {meth : Method} {c : Code} {H : Heap} {locs : List Loc} {cells slots : Nat} {Q : State → Prop} {E : ENV} {cc : ByteArray} {n : Nat} {r : Option FieldType} {pc : Nat} {ls : Array Slot} {rest : List Value} {a : Nat} {ws : va_W} {nm ds : String} {fs : List Value} {A : Nat → Prop} {v : Value} (C : Cx E A ⟨RX11, nm, ds⟩ cc n r p s m args meth c) (hP : va_P E.1 classes ws H) (q0 : Nat) (he : ws[q0]? = some (a, .inr (9, fs))) (hv : fs[8]? = some v) (hdg : decode cc pc = .ok (.getfield 343, 3))
    (kk : W p l e R s m args below meth c H locs cells slots Q (F0 m (pc + 3) ls (v :: rest))) : W p l e R s m args below meth c H locs cells slots Q (F0 m pc ls (.ref a :: rest)) :=
  va_getN (C := RX9) (T := TX9) (N := 9) (Ts := wl ⟨RX11, nm, ds⟩ cc n r) C.1 C.2.1 C.2.2.2.2.1 (fun w h => List.mem_cons_of_mem _ (inT9 w h)) C.2.2.2.1 C.2.2.2.2.2.1 hP q0 he rfl 8 (by decide) (va_Nw.use rfl (C.2.2.2.2.2.2.2.2.1 _ q288)) (fun _ h9 => h9) hv hdg kk
theorem dX11_slides_0 : decode cX11_slides 0 = .ok (.aload_n 0, 1) := by decide +kernel
theorem dX11_slides_1 : decode cX11_slides 1 = .ok (.getfield 19, 3) := by decide +kernel
theorem dX11_slides_4 : decode cX11_slides 4 = .ok (.iload_n 1, 1) := by decide +kernel
theorem dX11_slides_5 : decode cX11_slides 5 = .ok (.invokevirtual 267, 3) := by decide +kernel
theorem dX11_slides_8 : decode cX11_slides 8 = .ok (.ifCond .ne 5, 3) := by decide +kernel
theorem dX11_slides_11 : decode cX11_slides 11 = .ok (.iconst (-1), 1) := by decide +kernel
theorem dX11_slides_12 : decode cX11_slides 12 = .ok (.ireturn, 1) := by decide +kernel
theorem dX11_slides_13 : decode cX11_slides 13 = .ok (.aload_n 0, 1) := by decide +kernel
theorem dX11_slides_14 : decode cX11_slides 14 = .ok (.getfield 53, 3) := by decide +kernel
theorem dX11_slides_17 : decode cX11_slides 17 = .ok (.aload_n 0, 1) := by decide +kernel
theorem dX11_slides_18 : decode cX11_slides 18 = .ok (.getfield 49, 3) := by decide +kernel
theorem dX11_slides_21 : decode cX11_slides 21 = .ok (.getfield 148, 3) := by decide +kernel
theorem dX11_slides_24 : decode cX11_slides 24 = .ok (.invokevirtual 337, 3) := by decide +kernel
theorem dX11_slides_27 : decode cX11_slides 27 = .ok (.iconst 1, 1) := by decide +kernel
theorem dX11_slides_28 : decode cX11_slides 28 = .ok (.istore_n 2, 1) := by decide +kernel
theorem dX11_slides_29 : decode cX11_slides 29 = .ok (.iload_n 2, 1) := by decide +kernel
theorem dX11_slides_30 : decode cX11_slides 30 = .ok (.bipush 60, 2) := by decide +kernel
theorem dX11_slides_32 : decode cX11_slides 32 = .ok (.if_icmp .gt 33, 3) := by decide +kernel
theorem dX11_slides_35 : decode cX11_slides 35 = .ok (.aload_n 0, 1) := by decide +kernel
theorem dX11_slides_36 : decode cX11_slides 36 = .ok (.getfield 53, 3) := by decide +kernel
theorem dX11_slides_39 : decode cX11_slides 39 = .ok (.invokevirtual 340, 3) := by decide +kernel
theorem dX11_slides_42 : decode cX11_slides 42 = .ok (.aload_n 0, 1) := by decide +kernel
theorem dX11_slides_43 : decode cX11_slides 43 = .ok (.getfield 53, 3) := by decide +kernel
theorem dX11_slides_46 : decode cX11_slides 46 = .ok (.getfield 343, 3) := by decide +kernel
theorem dX11_slides_49 : decode cX11_slides 49 = .ok (.iload_n 1, 1) := by decide +kernel
theorem dX11_slides_50 : decode cX11_slides 50 = .ok (.ishr, 1) := by decide +kernel
theorem dX11_slides_51 : decode cX11_slides 51 = .ok (.iconst 1, 1) := by decide +kernel
theorem dX11_slides_52 : decode cX11_slides 52 = .ok (.iand, 1) := by decide +kernel
theorem dX11_slides_53 : decode cX11_slides 53 = .ok (.iconst 1, 1) := by decide +kernel
theorem dX11_slides_54 : decode cX11_slides 54 = .ok (.if_icmp .ne 5, 3) := by decide +kernel
theorem dX11_slides_57 : decode cX11_slides 57 = .ok (.iload_n 2, 1) := by decide +kernel
theorem dX11_slides_58 : decode cX11_slides 58 = .ok (.ireturn, 1) := by decide +kernel
theorem dX11_slides_59 : decode cX11_slides 59 = .ok (.iinc 2 1, 3) := by decide +kernel
theorem dX11_slides_62 : decode cX11_slides 62 = .ok (.goto (-33), 3) := by decide +kernel
theorem dX11_slides_65 : decode cX11_slides 65 = .ok (.bipush (-2), 2) := by decide +kernel
theorem dX11_slides_67 : decode cX11_slides 67 = .ok (.ireturn, 1) := by decide +kernel
def WX11_slides (E : ENV) (q0 : Nat) (q0_text : Nat) (q0_town : Nat) (q0_weather : Nat) (q0_rule : Nat) (q0_acts : Nat) (q0_real : Nat) (q0_trial : Nat) (q0_round : Nat) (q0_nights : Nat) (q0_before : Nat) (q0_history : Nat) (q0_kept : Nat) (q0_keptHouses : Nat) (q0_shortest : Nat) (q0_tracks : Nat) (q0_tally : Nat) (q0_told : Nat) (q0_town_hold : Nat) (q0_town_below : Nat) (q0_town_hay : Nat) (q0_real_state : Nat) (q0_real_owedBy : Nat) (q0_trial_state : Nat) (q0_trial_owedBy : Nat) (q0_trial_state_snow : Nat) (q0_trial_state_path : Nat) (q0_trial_state_debt : Nat) (q0_real_state_snow : Nat) (q0_real_state_path : Nat) (q0_real_state_debt : Nat) (q0_weather_inches : Nat) (q0_rule_code : Nat) (q0_rule_draft : Nat) (q0_rule_stack : Nat) (q0_rule_things : Nat) (i_toldCount : Int32) (i_town_houses : Int32) (i_real_owed : Int32) (i_real_slides : Int32) (i_real_struck : Int32) (i_real_slid : Int32) (i_trial_owed : Int32) (i_trial_slides : Int32) (i_trial_struck : Int32) (i_trial_slid : Int32) (i_trial_state_now : Int32) (i_real_state_now : Int32) (a_trial_state_snow : Nat → Int32) (a_trial_state_path : Nat → Int32) (a_trial_state_debt : Nat → Int32) (a_trial_owedBy : Nat → Int32) (a_real_state_snow : Nat → Int32) (a_real_state_path : Nat → Int32) (a_real_state_debt : Nat → Int32) (i_weather_length : Int32) (i_weather_cycle : Int32) (i_rule_length : Int32) (i_rule_drafted : Int32) (a_weather_inches : Nat → Int32) (a_town_hold : Nat → Int32) (a_town_below : Nat → Int32) (a_rule_things : Nat → Int32) (a_rule_stack : Nat → Int32) (a_rule_code : Nat → Int32) : va_W := [(q0, .inr (11, [.ref q0_text, .ref q0_town, .ref q0_weather, .ref q0_rule, .ref q0_acts, .ref q0_real, .ref q0_trial, .ref q0_round, .ref q0_nights, .ref q0_before, .ref q0_history, .ref q0_kept, .ref q0_keptHouses, .ref q0_shortest, .ref q0_tracks, .ref q0_tally, .ref q0_told, .int i_toldCount])), (q0_town, .inr (7, [.ref q0_town_hold, .ref q0_town_below, .ref q0_town_hay, .int i_town_houses])), (q0_real, .inr (9, [.ref q0_town, .ref q0_weather, .ref q0_rule, .ref q0_real_state, .ref q0_real_owedBy, .int i_real_owed, .int i_real_slides, .int i_real_struck, .int i_real_slid])), (q0_trial, .inr (9, [.ref q0_town, .ref q0_weather, .ref q0_rule, .ref q0_trial_state, .ref q0_trial_owedBy, .int i_trial_owed, .int i_trial_slides, .int i_trial_struck, .int i_trial_slid])), (q0_trial_state, .inr (5, [.ref q0_trial_state_snow, .ref q0_trial_state_path, .ref q0_trial_state_debt, .int i_trial_state_now])), (q0_real_state, .inr (5, [.ref q0_real_state_snow, .ref q0_real_state_path, .ref q0_real_state_debt, .int i_real_state_now])), (q0_trial_state_snow, .inl (E.2.1, 14, .inl a_trial_state_snow)), (q0_trial_state_path, .inl (E.2.1, 7, .inl a_trial_state_path)), (q0_trial_state_debt, .inl (E.2.1, 49, .inl a_trial_state_debt)), (q0_trial_owedBy, .inl (E.2.1, 7, .inl a_trial_owedBy)), (q0_real_state_snow, .inl (E.2.1, 14, .inl a_real_state_snow)), (q0_real_state_path, .inl (E.2.1, 7, .inl a_real_state_path)), (q0_real_state_debt, .inl (E.2.1, 49, .inl a_real_state_debt)), (q0_weather, .inr (10, [.ref q0_weather_inches, .int i_weather_length, .int i_weather_cycle])), (q0_rule, .inr (4, [.ref q0_rule_code, .ref q0_rule_draft, .ref q0_rule_stack, .ref q0_rule_things, .int i_rule_length, .int i_rule_drafted])), (q0_weather_inches, .inl (E.2.1, 40, .inl a_weather_inches)), (q0_town_hold, .inl (E.2.1, 7, .inl a_town_hold)), (q0_town_below, .inl (E.2.1, 14, .inl a_town_below)), (q0_rule_things, .inl (E.2.1, 8, .inl a_rule_things)), (q0_rule_stack, .inl (E.2.1, 40, .inl a_rule_stack)), (q0_rule_code, .inl (E.2.1, 40, .inl a_rule_code))]
set_option maxHeartbeats 4000000 in
set_option maxRecDepth 20000 in
theorem kX11_slides (l : Launch) (E : ENV) (q0 : Nat) (q0_text : Nat) (q0_town : Nat) (q0_weather : Nat) (q0_rule : Nat) (q0_acts : Nat) (q0_real : Nat) (q0_trial : Nat) (q0_round : Nat) (q0_nights : Nat) (q0_before : Nat) (q0_history : Nat) (q0_kept : Nat) (q0_keptHouses : Nat) (q0_shortest : Nat) (q0_tracks : Nat) (q0_tally : Nat) (q0_told : Nat) (q0_town_hold : Nat) (q0_town_below : Nat) (q0_town_hay : Nat) (q0_real_state : Nat) (q0_real_owedBy : Nat) (q0_trial_state : Nat) (q0_trial_owedBy : Nat) (q0_trial_state_snow : Nat) (q0_trial_state_path : Nat) (q0_trial_state_debt : Nat) (q0_real_state_snow : Nat) (q0_real_state_path : Nat) (q0_real_state_debt : Nat) (q0_weather_inches : Nat) (q0_rule_code : Nat) (q0_rule_draft : Nat) (q0_rule_stack : Nat) (q0_rule_things : Nat) (i_toldCount : Int32) (i_town_houses : Int32) (i_real_owed : Int32) (i_real_slides : Int32) (i_real_struck : Int32) (i_real_slid : Int32) (i_trial_owed : Int32) (i_trial_slides : Int32) (i_trial_struck : Int32) (i_trial_slid : Int32) (i_trial_state_now : Int32) (i_real_state_now : Int32) (a_trial_state_snow : Nat → Int32) (a_trial_state_path : Nat → Int32) (a_trial_state_debt : Nat → Int32) (a_trial_owedBy : Nat → Int32) (a_real_state_snow : Nat → Int32) (a_real_state_path : Nat → Int32) (a_real_state_debt : Nat → Int32) (i_weather_length : Int32) (i_weather_cycle : Int32) (i_rule_length : Int32) (i_rule_drafted : Int32) (a_weather_inches : Nat → Int32) (a_town_hold : Nat → Int32) (a_town_below : Nat → Int32) (a_rule_things : Nat → Int32) (a_rule_stack : Nat → Int32) (a_rule_code : Nat → Int32) (p1 : Int32) (o9 : Int32 × Int32 × Int32 × Int32 × Int32 × Int32 × (Nat → Int32) × (Nat → Int32) × (Nat → Int32) × (Nat → Int32) × (Nat → Int32) × (Nat → Int32)) (hf : fX11_slides i_town_houses i_trial_owed i_trial_slides i_trial_struck i_trial_slid i_trial_state_now i_real_state_now a_trial_state_snow a_trial_state_path a_trial_state_debt a_trial_owedBy a_real_state_snow a_real_state_path a_real_state_debt i_weather_cycle i_rule_length a_weather_inches a_town_hold a_town_below a_rule_things a_rule_stack a_rule_code p1 = some o9) : CI l E yX11_slides cX11_slides 3 (some .int) 4 [.ref q0, .int p1] (WX11_slides E q0 q0_text q0_town q0_weather q0_rule q0_acts q0_real q0_trial q0_round q0_nights q0_before q0_history q0_kept q0_keptHouses q0_shortest q0_tracks q0_tally q0_told q0_town_hold q0_town_below q0_town_hay q0_real_state q0_real_owedBy q0_trial_state q0_trial_owedBy q0_trial_state_snow q0_trial_state_path q0_trial_state_debt q0_real_state_snow q0_real_state_path q0_real_state_debt q0_weather_inches q0_rule_code q0_rule_draft q0_rule_stack q0_rule_things i_toldCount i_town_houses i_real_owed i_real_slides i_real_struck i_real_slid i_trial_owed i_trial_slides i_trial_struck i_trial_slid i_trial_state_now i_real_state_now a_trial_state_snow a_trial_state_path a_trial_state_debt a_trial_owedBy a_real_state_snow a_real_state_path a_real_state_debt i_weather_length i_weather_cycle i_rule_length i_rule_drafted a_weather_inches a_town_hold a_town_below a_rule_things a_rule_stack a_rule_code) (WX11_slides E q0 q0_text q0_town q0_weather q0_rule q0_acts q0_real q0_trial q0_round q0_nights q0_before q0_history q0_kept q0_keptHouses q0_shortest q0_tracks q0_tally q0_told q0_town_hold q0_town_below q0_town_hay q0_real_state q0_real_owedBy q0_trial_state q0_trial_owedBy q0_trial_state_snow q0_trial_state_path q0_trial_state_debt q0_real_state_snow q0_real_state_path q0_real_state_debt q0_weather_inches q0_rule_code q0_rule_draft q0_rule_stack q0_rule_things i_toldCount i_town_houses i_real_owed i_real_slides i_real_struck i_real_slid o9.2.1 o9.2.2.1 o9.2.2.2.1 o9.2.2.2.2.1 o9.2.2.2.2.2.1 i_real_state_now o9.2.2.2.2.2.2.1 o9.2.2.2.2.2.2.2.1 o9.2.2.2.2.2.2.2.2.1 o9.2.2.2.2.2.2.2.2.2.1 a_real_state_snow a_real_state_path a_real_state_debt i_weather_length i_weather_cycle i_rule_length i_rule_drafted a_weather_inches a_town_hold a_town_below o9.2.2.2.2.2.2.2.2.2.2.1 o9.2.2.2.2.2.2.2.2.2.2.2 a_rule_code) o9.1 := by
  refine begI (by decide +kernel) (Nat.le_of_ble_eq_true rfl) ?_
  intro p e s m args below meth c A Q C hA hret
  have hx := C.1
  have hb := C.2.1
  have L29 : ∀ (n : Nat) (v2 : Int32) (i_trial_owed : Int32) (i_trial_slides : Int32) (i_trial_struck : Int32) (i_trial_slid : Int32) (i_trial_state_now : Int32) (a_trial_state_snow : Nat → Int32) (a_trial_state_path : Nat → Int32) (a_trial_state_debt : Nat → Int32) (a_trial_owedBy : Nat → Int32) (a_rule_things : Nat → Int32) (a_rule_stack : Nat → Int32) (o : (Int32 × Int32 × Int32 × Int32 × Int32 × (Nat → Int32) × (Nat → Int32) × (Nat → Int32) × (Nat → Int32) × (Nat → Int32) × (Nat → Int32)) ⊕ (Int32 × Int32 × Int32 × Int32 × Int32 × Int32 × (Nat → Int32) × (Nat → Int32) × (Nat → Int32) × (Nat → Int32) × (Nat → Int32) × (Nat → Int32))), fX11_slides_L29 i_town_houses i_weather_cycle i_rule_length a_weather_inches a_town_hold a_town_below a_rule_code p1 n v2 i_trial_owed i_trial_slides i_trial_struck i_trial_slid i_trial_state_now a_trial_state_snow a_trial_state_path a_trial_state_debt a_trial_owedBy a_rule_things a_rule_stack = some o → (∀ x, o = Sum.inl x → GO p l e 4 s m args below meth c Q E A 3 65 [] [] (WX11_slides E q0 q0_text q0_town q0_weather q0_rule q0_acts q0_real q0_trial q0_round q0_nights q0_before q0_history q0_kept q0_keptHouses q0_shortest q0_tracks q0_tally q0_told q0_town_hold q0_town_below q0_town_hay q0_real_state q0_real_owedBy q0_trial_state q0_trial_owedBy q0_trial_state_snow q0_trial_state_path q0_trial_state_debt q0_real_state_snow q0_real_state_path q0_real_state_debt q0_weather_inches q0_rule_code q0_rule_draft q0_rule_stack q0_rule_things i_toldCount i_town_houses i_real_owed i_real_slides i_real_struck i_real_slid x.1 x.2.1 x.2.2.1 x.2.2.2.1 x.2.2.2.2.1 i_real_state_now x.2.2.2.2.2.1 x.2.2.2.2.2.2.1 x.2.2.2.2.2.2.2.1 x.2.2.2.2.2.2.2.2.1 a_real_state_snow a_real_state_path a_real_state_debt i_weather_length i_weather_cycle i_rule_length i_rule_drafted a_weather_inches a_town_hold a_town_below x.2.2.2.2.2.2.2.2.2.1 x.2.2.2.2.2.2.2.2.2.2 a_rule_code)) → (∀ x, o = Sum.inr x → x = o9) → GO p l e 4 s m args below meth c Q E A 3 29 [] [(0, .ref q0), (1, .int p1), (2, .int v2)] (WX11_slides E q0 q0_text q0_town q0_weather q0_rule q0_acts q0_real q0_trial q0_round q0_nights q0_before q0_history q0_kept q0_keptHouses q0_shortest q0_tracks q0_tally q0_told q0_town_hold q0_town_below q0_town_hay q0_real_state q0_real_owedBy q0_trial_state q0_trial_owedBy q0_trial_state_snow q0_trial_state_path q0_trial_state_debt q0_real_state_snow q0_real_state_path q0_real_state_debt q0_weather_inches q0_rule_code q0_rule_draft q0_rule_stack q0_rule_things i_toldCount i_town_houses i_real_owed i_real_slides i_real_struck i_real_slid i_trial_owed i_trial_slides i_trial_struck i_trial_slid i_trial_state_now i_real_state_now a_trial_state_snow a_trial_state_path a_trial_state_debt a_trial_owedBy a_real_state_snow a_real_state_path a_real_state_debt i_weather_length i_weather_cycle i_rule_length i_rule_drafted a_weather_inches a_town_hold a_town_below a_rule_things a_rule_stack a_rule_code) := by
    intro n
    induction n with
    | zero =>
      intro v2 i_trial_owed i_trial_slides i_trial_struck i_trial_slid i_trial_state_now a_trial_state_snow a_trial_state_path a_trial_state_debt a_trial_owedBy a_rule_things a_rule_stack o hf
      have hf : none = some o := hf
      cases hf
    | succ n ih =>
      intro v2 i_trial_owed i_trial_slides i_trial_struck i_trial_slid i_trial_state_now a_trial_state_snow a_trial_state_path a_trial_state_debt a_trial_owedBy a_rule_things a_rule_stack o hf hE hR
      intro H locs ls hl hP hD hS
      rw [fX11_slides_L29] at hf
      refine lv_iload_n hx hb dX11_slides_29 rfl (lv_at hl 2 rfl) ?_
      refine lv_bipush (v := 60) hx hb dX11_slides_30 (by decide) ?_
      refine lv_icmp_gt (tgt := 65) hx hb dX11_slides_32 (by decide) (fun c6 => ?_) (fun c6 => ?_)
      · rw [if_pos c6] at hf
        have hf := Option.some.inj hf
        subst hf
        exact (hE _ rfl) _ _ _ (lv_sub hl [] rfl) hP hD hS
      · rw [if_neg c6] at hf
        refine lv_aload_n hx hb dX11_slides_35 rfl (lv_at hl 0 rfl) ?_
        refine gf_RX11_53 C hP 0 rfl rfl dX11_slides_36 ?_
        obtain ⟨o7, hg8, hf⟩ := bd_some hf
        refine k_VV2 (As := []) C K_RX11_340 (Nat.le_of_ble_eq_true rfl) (Nat.le_of_ble_eq_true rfl) (kX9_goDay l E q0_trial q0_town q0_weather q0_rule q0_trial_state q0_trial_owedBy q0_trial_state_snow q0_trial_state_path q0_trial_state_debt q0_weather_inches q0_town_hold q0_town_below q0_town_hay q0_rule_code q0_rule_draft q0_rule_stack q0_rule_things i_trial_owed i_trial_slides i_trial_struck i_trial_slid i_trial_state_now i_weather_length i_weather_cycle a_weather_inches i_town_houses a_trial_state_snow a_trial_state_path a_town_hold a_town_below i_rule_length i_rule_drafted a_rule_things a_rule_stack a_rule_code a_trial_state_debt a_trial_owedBy o7.1 o7.2.1 o7.2.2.1 o7.2.2.2.1 o7.2.2.2.2.1 o7.2.2.2.2.2.1 o7.2.2.2.2.2.2.1 o7.2.2.2.2.2.2.2.1 o7.2.2.2.2.2.2.2.2.1 o7.2.2.2.2.2.2.2.2.2.1 o7.2.2.2.2.2.2.2.2.2.2 hg8) [3, 4, 13, 15, 1, 6, 7, 16, 17, 14, 18, 19, 20, 8, 9] rfl rfl rfl (ci := 9) rfl rfl (q0 := 0) rfl hP hD hS hA hl.1 (Nat.le_of_ble_eq_true rfl) rfl dX11_slides_39 (ws2 := (WX11_slides E q0 q0_text q0_town q0_weather q0_rule q0_acts q0_real q0_trial q0_round q0_nights q0_before q0_history q0_kept q0_keptHouses q0_shortest q0_tracks q0_tally q0_told q0_town_hold q0_town_below q0_town_hay q0_real_state q0_real_owedBy q0_trial_state q0_trial_owedBy q0_trial_state_snow q0_trial_state_path q0_trial_state_debt q0_real_state_snow q0_real_state_path q0_real_state_debt q0_weather_inches q0_rule_code q0_rule_draft q0_rule_stack q0_rule_things i_toldCount i_town_houses i_real_owed i_real_slides i_real_struck i_real_slid o7.1 o7.2.1 o7.2.2.1 o7.2.2.2.1 o7.2.2.2.2.1 i_real_state_now o7.2.2.2.2.2.1 o7.2.2.2.2.2.2.1 o7.2.2.2.2.2.2.2.2.2.1 o7.2.2.2.2.2.2.2.2.2.2 a_real_state_snow a_real_state_path a_real_state_debt i_weather_length i_weather_cycle i_rule_length i_rule_drafted a_weather_inches a_town_hold a_town_below o7.2.2.2.2.2.2.2.1 o7.2.2.2.2.2.2.2.2.1 a_rule_code)) 21 [0, 2, 5, 10, 11, 12] rfl rfl rfl rfl (by decide +kernel) (fun H locs hP hD hS => ?_)
        refine lv_aload_n hx hb dX11_slides_42 rfl (lv_at hl 0 rfl) ?_
        refine gf_RX11_53 C hP 0 rfl rfl dX11_slides_43 ?_
        refine gf_RX11_343 C hP 3 rfl rfl dX11_slides_46 ?_
        refine lv_iload_n hx hb dX11_slides_49 rfl (lv_at hl 1 rfl) ?_
        refine lv_ishr hx hb dX11_slides_50 ?_
        refine lv_iconst (v := 1) hx hb dX11_slides_51 (by decide) ?_
        refine lv_iand hx hb dX11_slides_52 ?_
        refine lv_iconst (v := 1) hx hb dX11_slides_53 (by decide) ?_
        refine lv_icmp_ne (tgt := 59) hx hb dX11_slides_54 (by decide) (fun c9 => ?_) (fun c9 => ?_)
        · rw [if_neg c9] at hf
          refine lv_iinc (v := (v2 + 1)) (lv' := [(2, .int ((v2 + 1))), (0, .ref q0), (1, .int p1)]) hx hb dX11_slides_59 hl (k := 2) rfl rfl (by decide) rfl (fun ls hl => ?_)
          refine lv_goto (tgt := 29) hx hb dX11_slides_62 (by decide) ?_
          exact ih ((v2 + 1)) o7.1 o7.2.1 o7.2.2.1 o7.2.2.2.1 o7.2.2.2.2.1 o7.2.2.2.2.2.1 o7.2.2.2.2.2.2.1 o7.2.2.2.2.2.2.2.2.2.1 o7.2.2.2.2.2.2.2.2.2.2 o7.2.2.2.2.2.2.2.1 o7.2.2.2.2.2.2.2.2.1 _ hf hE hR _ _ _ (lv_sub hl [1, 2, 0] rfl) hP hD hS
        · rw [if_pos c9] at hf
          refine lv_iload_n hx hb dX11_slides_57 rfl (lv_at hl 2 rfl) ?_
          have hf := Option.some.inj hf
          subst hf
          have hj0 := hR _ rfl
          subst hj0
          exact hret _ _ _ _ dX11_slides_58 rfl hP hD hS
  intro H locs ls hl hP hD hS
  have hl : lv_has ls 3 [(0, .ref q0), (1, .int p1)] := hl
  unfold fX11_slides at hf
  refine lv_aload_n hx hb dX11_slides_0 rfl (lv_at hl 0 rfl) ?_
  refine gf_RX11_19 C hP 0 rfl rfl dX11_slides_1 ?_
  refine lv_iload_n hx hb dX11_slides_4 rfl (lv_at hl 1 rfl) ?_
  obtain ⟨o1, hg2, hf⟩ := bd_some hf
  refine k_VI2 (As := [.int p1]) C K_RX11_267 (Nat.le_of_ble_eq_true rfl) (Nat.le_of_ble_eq_true rfl) (kX7_hasSide l E q0_town q0_town_hold q0_town_below q0_town_hay i_town_houses p1 o1 hg2) [1] rfl rfl rfl (ci := 7) rfl rfl (q0 := 0) rfl hP hD hS hA hl.1 (Nat.le_of_ble_eq_true rfl) rfl dX11_slides_5 (ws2 := (WX11_slides E q0 q0_text q0_town q0_weather q0_rule q0_acts q0_real q0_trial q0_round q0_nights q0_before q0_history q0_kept q0_keptHouses q0_shortest q0_tracks q0_tally q0_told q0_town_hold q0_town_below q0_town_hay q0_real_state q0_real_owedBy q0_trial_state q0_trial_owedBy q0_trial_state_snow q0_trial_state_path q0_trial_state_debt q0_real_state_snow q0_real_state_path q0_real_state_debt q0_weather_inches q0_rule_code q0_rule_draft q0_rule_stack q0_rule_things i_toldCount i_town_houses i_real_owed i_real_slides i_real_struck i_real_slid i_trial_owed i_trial_slides i_trial_struck i_trial_slid i_trial_state_now i_real_state_now a_trial_state_snow a_trial_state_path a_trial_state_debt a_trial_owedBy a_real_state_snow a_real_state_path a_real_state_debt i_weather_length i_weather_cycle i_rule_length i_rule_drafted a_weather_inches a_town_hold a_town_below a_rule_things a_rule_stack a_rule_code)) 21 [0, 2, 3, 4, 5, 6, 7, 8, 9, 10, 11, 12, 13, 14, 15, 16, 17, 18, 19, 20] rfl rfl rfl rfl (by decide +kernel) (fun H locs hP hD hS => ?_)
  refine lv_if_ne (tgt := 13) hx hb dX11_slides_8 (by decide) (fun c3 => ?_) (fun c3 => ?_)
  · rw [if_neg c3] at hf
    refine lv_aload_n hx hb dX11_slides_13 rfl (lv_at hl 0 rfl) ?_
    refine gf_RX11_53 C hP 0 rfl rfl dX11_slides_14 ?_
    refine lv_aload_n hx hb dX11_slides_17 rfl (lv_at hl 0 rfl) ?_
    refine gf_RX11_49 C hP 0 rfl rfl dX11_slides_18 ?_
    refine gf_RX11_148 C hP 2 rfl rfl dX11_slides_21 ?_
    obtain ⟨o4, hg5, hf⟩ := bd_some hf
    refine k_VV2 (As := [.ref q0_real_state]) C K_RX11_337 (Nat.le_of_ble_eq_true rfl) (Nat.le_of_ble_eq_true rfl) (kX9_beginAt l E q0_trial q0_town q0_weather q0_rule q0_trial_state q0_trial_owedBy q0_trial_state_snow q0_trial_state_path q0_trial_state_debt q0_real_state q0_real_state_snow q0_real_state_path q0_real_state_debt i_trial_owed i_trial_slides i_trial_struck i_trial_slid i_trial_state_now a_trial_state_snow a_trial_state_path a_trial_state_debt a_trial_owedBy i_real_state_now a_real_state_snow a_real_state_path a_real_state_debt o4.1 o4.2.1 o4.2.2.1 o4.2.2.2.1 o4.2.2.2.2.1 o4.2.2.2.2.2.1 o4.2.2.2.2.2.2.1 o4.2.2.2.2.2.2.2.1 o4.2.2.2.2.2.2.2.2 hg5) [3, 4, 6, 7, 8, 9, 5, 10, 11, 12] rfl rfl rfl (ci := 9) rfl rfl (q0 := 0) rfl hP hD hS hA hl.1 (Nat.le_of_ble_eq_true rfl) rfl dX11_slides_24 (ws2 := (WX11_slides E q0 q0_text q0_town q0_weather q0_rule q0_acts q0_real q0_trial q0_round q0_nights q0_before q0_history q0_kept q0_keptHouses q0_shortest q0_tracks q0_tally q0_told q0_town_hold q0_town_below q0_town_hay q0_real_state q0_real_owedBy q0_trial_state q0_trial_owedBy q0_trial_state_snow q0_trial_state_path q0_trial_state_debt q0_real_state_snow q0_real_state_path q0_real_state_debt q0_weather_inches q0_rule_code q0_rule_draft q0_rule_stack q0_rule_things i_toldCount i_town_houses i_real_owed i_real_slides i_real_struck i_real_slid o4.1 o4.2.1 o4.2.2.1 o4.2.2.2.1 o4.2.2.2.2.1 i_real_state_now o4.2.2.2.2.2.1 o4.2.2.2.2.2.2.1 o4.2.2.2.2.2.2.2.1 o4.2.2.2.2.2.2.2.2 a_real_state_snow a_real_state_path a_real_state_debt i_weather_length i_weather_cycle i_rule_length i_rule_drafted a_weather_inches a_town_hold a_town_below a_rule_things a_rule_stack a_rule_code)) 21 [0, 1, 2, 13, 14, 15, 16, 17, 18, 19, 20] rfl rfl rfl rfl (by decide +kernel) (fun H locs hP hD hS => ?_)
    refine lv_iconst (v := 1) hx hb dX11_slides_27 (by decide) ?_
    refine lv_istore_n (lv' := [(2, .int 1), (0, .ref q0), (1, .int p1)]) hx hb dX11_slides_28 rfl hl (by decide) rfl (fun ls hl => ?_)
    obtain ⟨o10, hg11, hf⟩ := bd_some hf
    refine L29 FU 1 o4.1 o4.2.1 o4.2.2.1 o4.2.2.2.1 o4.2.2.2.2.1 o4.2.2.2.2.2.1 o4.2.2.2.2.2.2.1 o4.2.2.2.2.2.2.2.1 o4.2.2.2.2.2.2.2.2 a_rule_things a_rule_stack o10 hg11 ?_ ?_ _ _ _ (lv_sub hl [1, 2, 0] rfl) hP hD hS
    · intro x12 hxx
      rw [hxx, Sum.elim_inl] at hf
      intro H locs ls hl hP hD hS
      refine lv_bipush (v := (-2)) hx hb dX11_slides_65 (by decide) ?_
      have hj0 := Option.some.inj hf
      subst hj0
      exact hret _ _ _ _ dX11_slides_67 rfl hP hD hS
    · intro x hxx
      rw [hxx, Sum.elim_inr] at hf
      exact Option.some.inj hf
  · rw [if_pos c3] at hf
    refine lv_iconst (v := (-1)) hx hb dX11_slides_11 (by decide) ?_
    have hj0 := Option.some.inj hf
    subst hj0
    exact hret _ _ _ _ dX11_slides_12 rfl hP hD hS
theorem dX11_later_0 : decode cX11_later 0 = .ok (.aload_n 0, 1) := by decide +kernel
theorem dX11_later_1 : decode cX11_later 1 = .ok (.getfield 19, 3) := by decide +kernel
theorem dX11_later_4 : decode cX11_later 4 = .ok (.iload_n 1, 1) := by decide +kernel
theorem dX11_later_5 : decode cX11_later 5 = .ok (.invokevirtual 267, 3) := by decide +kernel
theorem dX11_later_8 : decode cX11_later 8 = .ok (.ifCond .eq 13, 3) := by decide +kernel
theorem dX11_later_11 : decode cX11_later 11 = .ok (.iload_n 2, 1) := by decide +kernel
theorem dX11_later_12 : decode cX11_later 12 = .ok (.iconst 0, 1) := by decide +kernel
theorem dX11_later_13 : decode cX11_later 13 = .ok (.bipush 60, 2) := by decide +kernel
theorem dX11_later_15 : decode cX11_later 15 = .ok (.invokestatic 128, 3) := by decide +kernel
theorem dX11_later_18 : decode cX11_later 18 = .ok (.ifCond .ne 5, 3) := by decide +kernel
theorem dX11_later_21 : decode cX11_later 21 = .ok (.iconst (-1), 1) := by decide +kernel
theorem dX11_later_22 : decode cX11_later 22 = .ok (.ireturn, 1) := by decide +kernel
theorem dX11_later_23 : decode cX11_later 23 = .ok (.aload_n 0, 1) := by decide +kernel
theorem dX11_later_24 : decode cX11_later 24 = .ok (.getfield 53, 3) := by decide +kernel
theorem dX11_later_27 : decode cX11_later 27 = .ok (.aload_n 0, 1) := by decide +kernel
theorem dX11_later_28 : decode cX11_later 28 = .ok (.getfield 49, 3) := by decide +kernel
theorem dX11_later_31 : decode cX11_later 31 = .ok (.getfield 148, 3) := by decide +kernel
theorem dX11_later_34 : decode cX11_later 34 = .ok (.iload_n 2, 1) := by decide +kernel
theorem dX11_later_35 : decode cX11_later 35 = .ok (.invokevirtual 331, 3) := by decide +kernel
theorem dX11_later_38 : decode cX11_later 38 = .ok (.aload_n 0, 1) := by decide +kernel
theorem dX11_later_39 : decode cX11_later 39 = .ok (.iconst 0, 1) := by decide +kernel
theorem dX11_later_40 : decode cX11_later 40 = .ok (.putfield 288, 3) := by decide +kernel
theorem dX11_later_43 : decode cX11_later 43 = .ok (.iconst 0, 1) := by decide +kernel
theorem dX11_later_44 : decode cX11_later 44 = .ok (.istore_n 3, 1) := by decide +kernel
theorem dX11_later_45 : decode cX11_later 45 = .ok (.iload_n 3, 1) := by decide +kernel
theorem dX11_later_46 : decode cX11_later 46 = .ok (.aload_n 0, 1) := by decide +kernel
theorem dX11_later_47 : decode cX11_later 47 = .ok (.getfield 19, 3) := by decide +kernel
theorem dX11_later_50 : decode cX11_later 50 = .ok (.getfield 179, 3) := by decide +kernel
theorem dX11_later_53 : decode cX11_later 53 = .ok (.if_icmp .ge 25, 3) := by decide +kernel
theorem dX11_later_56 : decode cX11_later 56 = .ok (.aload_n 0, 1) := by decide +kernel
theorem dX11_later_57 : decode cX11_later 57 = .ok (.aload_n 0, 1) := by decide +kernel
theorem dX11_later_58 : decode cX11_later 58 = .ok (.getfield 53, 3) := by decide +kernel
theorem dX11_later_61 : decode cX11_later 61 = .ok (.getfield 148, 3) := by decide +kernel
theorem dX11_later_64 : decode cX11_later 64 = .ok (.getfield 154, 3) := by decide +kernel
theorem dX11_later_67 : decode cX11_later 67 = .ok (.iload_n 3, 1) := by decide +kernel
theorem dX11_later_68 : decode cX11_later 68 = .ok (.iaload, 1) := by decide +kernel
theorem dX11_later_69 : decode cX11_later 69 = .ok (.invokevirtual 295, 3) := by decide +kernel
theorem dX11_later_72 : decode cX11_later 72 = .ok (.iinc 3 1, 3) := by decide +kernel
theorem dX11_later_75 : decode cX11_later 75 = .ok (.goto (-30), 3) := by decide +kernel
theorem dX11_later_78 : decode cX11_later 78 = .ok (.aload_n 0, 1) := by decide +kernel
theorem dX11_later_79 : decode cX11_later 79 = .ok (.getfield 53, 3) := by decide +kernel
theorem dX11_later_82 : decode cX11_later 82 = .ok (.getfield 148, 3) := by decide +kernel
theorem dX11_later_85 : decode cX11_later 85 = .ok (.getfield 151, 3) := by decide +kernel
theorem dX11_later_88 : decode cX11_later 88 = .ok (.iload_n 1, 1) := by decide +kernel
theorem dX11_later_89 : decode cX11_later 89 = .ok (.iaload, 1) := by decide +kernel
theorem dX11_later_90 : decode cX11_later 90 = .ok (.ireturn, 1) := by decide +kernel
def WX11_later (E : ENV) (q0 : Nat) (q0_text : Nat) (q0_town : Nat) (q0_weather : Nat) (q0_rule : Nat) (q0_acts : Nat) (q0_real : Nat) (q0_trial : Nat) (q0_round : Nat) (q0_nights : Nat) (q0_before : Nat) (q0_history : Nat) (q0_kept : Nat) (q0_keptHouses : Nat) (q0_shortest : Nat) (q0_tracks : Nat) (q0_tally : Nat) (q0_told : Nat) (q0_town_hold : Nat) (q0_town_below : Nat) (q0_town_hay : Nat) (q0_real_state : Nat) (q0_real_owedBy : Nat) (q0_trial_state : Nat) (q0_trial_owedBy : Nat) (q0_trial_state_snow : Nat) (q0_trial_state_path : Nat) (q0_trial_state_debt : Nat) (q0_weather_inches : Nat) (q0_rule_code : Nat) (q0_rule_draft : Nat) (q0_rule_stack : Nat) (q0_rule_things : Nat) (q0_real_state_snow : Nat) (q0_real_state_path : Nat) (q0_real_state_debt : Nat) (i_toldCount : Int32) (i_town_houses : Int32) (i_real_owed : Int32) (i_real_slides : Int32) (i_real_struck : Int32) (i_real_slid : Int32) (i_trial_owed : Int32) (i_trial_slides : Int32) (i_trial_struck : Int32) (i_trial_slid : Int32) (i_trial_state_now : Int32) (i_weather_length : Int32) (i_weather_cycle : Int32) (i_rule_length : Int32) (i_rule_drafted : Int32) (i_real_state_now : Int32) (a_trial_state_snow : Nat → Int32) (a_trial_state_path : Nat → Int32) (a_trial_state_debt : Nat → Int32) (a_trial_owedBy : Nat → Int32) (a_weather_inches : Nat → Int32) (a_town_hold : Nat → Int32) (a_town_below : Nat → Int32) (a_rule_things : Nat → Int32) (a_rule_stack : Nat → Int32) (a_rule_code : Nat → Int32) (a_real_state_snow : Nat → Int32) (a_real_state_path : Nat → Int32) (a_real_state_debt : Nat → Int32) (a_told : Nat → Int32) : va_W := [(q0, .inr (11, [.ref q0_text, .ref q0_town, .ref q0_weather, .ref q0_rule, .ref q0_acts, .ref q0_real, .ref q0_trial, .ref q0_round, .ref q0_nights, .ref q0_before, .ref q0_history, .ref q0_kept, .ref q0_keptHouses, .ref q0_shortest, .ref q0_tracks, .ref q0_tally, .ref q0_told, .int i_toldCount])), (q0_town, .inr (7, [.ref q0_town_hold, .ref q0_town_below, .ref q0_town_hay, .int i_town_houses])), (q0_real, .inr (9, [.ref q0_town, .ref q0_weather, .ref q0_rule, .ref q0_real_state, .ref q0_real_owedBy, .int i_real_owed, .int i_real_slides, .int i_real_struck, .int i_real_slid])), (q0_trial, .inr (9, [.ref q0_town, .ref q0_weather, .ref q0_rule, .ref q0_trial_state, .ref q0_trial_owedBy, .int i_trial_owed, .int i_trial_slides, .int i_trial_struck, .int i_trial_slid])), (q0_trial_state, .inr (5, [.ref q0_trial_state_snow, .ref q0_trial_state_path, .ref q0_trial_state_debt, .int i_trial_state_now])), (q0_weather, .inr (10, [.ref q0_weather_inches, .int i_weather_length, .int i_weather_cycle])), (q0_rule, .inr (4, [.ref q0_rule_code, .ref q0_rule_draft, .ref q0_rule_stack, .ref q0_rule_things, .int i_rule_length, .int i_rule_drafted])), (q0_real_state, .inr (5, [.ref q0_real_state_snow, .ref q0_real_state_path, .ref q0_real_state_debt, .int i_real_state_now])), (q0_trial_state_snow, .inl (E.2.1, 14, .inl a_trial_state_snow)), (q0_trial_state_path, .inl (E.2.1, 7, .inl a_trial_state_path)), (q0_trial_state_debt, .inl (E.2.1, 49, .inl a_trial_state_debt)), (q0_trial_owedBy, .inl (E.2.1, 7, .inl a_trial_owedBy)), (q0_weather_inches, .inl (E.2.1, 40, .inl a_weather_inches)), (q0_town_hold, .inl (E.2.1, 7, .inl a_town_hold)), (q0_town_below, .inl (E.2.1, 14, .inl a_town_below)), (q0_rule_things, .inl (E.2.1, 8, .inl a_rule_things)), (q0_rule_stack, .inl (E.2.1, 40, .inl a_rule_stack)), (q0_rule_code, .inl (E.2.1, 40, .inl a_rule_code)), (q0_real_state_snow, .inl (E.2.1, 14, .inl a_real_state_snow)), (q0_real_state_path, .inl (E.2.1, 7, .inl a_real_state_path)), (q0_real_state_debt, .inl (E.2.1, 49, .inl a_real_state_debt)), (q0_told, .inl (E.2.1, 8, .inl a_told))]
set_option maxHeartbeats 4000000 in
set_option maxRecDepth 20000 in
theorem kX11_later (l : Launch) (E : ENV) (q0 : Nat) (q0_text : Nat) (q0_town : Nat) (q0_weather : Nat) (q0_rule : Nat) (q0_acts : Nat) (q0_real : Nat) (q0_trial : Nat) (q0_round : Nat) (q0_nights : Nat) (q0_before : Nat) (q0_history : Nat) (q0_kept : Nat) (q0_keptHouses : Nat) (q0_shortest : Nat) (q0_tracks : Nat) (q0_tally : Nat) (q0_told : Nat) (q0_town_hold : Nat) (q0_town_below : Nat) (q0_town_hay : Nat) (q0_real_state : Nat) (q0_real_owedBy : Nat) (q0_trial_state : Nat) (q0_trial_owedBy : Nat) (q0_trial_state_snow : Nat) (q0_trial_state_path : Nat) (q0_trial_state_debt : Nat) (q0_weather_inches : Nat) (q0_rule_code : Nat) (q0_rule_draft : Nat) (q0_rule_stack : Nat) (q0_rule_things : Nat) (q0_real_state_snow : Nat) (q0_real_state_path : Nat) (q0_real_state_debt : Nat) (i_toldCount : Int32) (i_town_houses : Int32) (i_real_owed : Int32) (i_real_slides : Int32) (i_real_struck : Int32) (i_real_slid : Int32) (i_trial_owed : Int32) (i_trial_slides : Int32) (i_trial_struck : Int32) (i_trial_slid : Int32) (i_trial_state_now : Int32) (i_weather_length : Int32) (i_weather_cycle : Int32) (i_rule_length : Int32) (i_rule_drafted : Int32) (i_real_state_now : Int32) (a_trial_state_snow : Nat → Int32) (a_trial_state_path : Nat → Int32) (a_trial_state_debt : Nat → Int32) (a_trial_owedBy : Nat → Int32) (a_weather_inches : Nat → Int32) (a_town_hold : Nat → Int32) (a_town_below : Nat → Int32) (a_rule_things : Nat → Int32) (a_rule_stack : Nat → Int32) (a_rule_code : Nat → Int32) (a_real_state_snow : Nat → Int32) (a_real_state_path : Nat → Int32) (a_real_state_debt : Nat → Int32) (a_told : Nat → Int32) (p1 : Int32) (p2 : Int32) (o9 : Int32 × Int32 × Int32 × Int32 × Int32 × Int32 × Int32 × (Nat → Int32) × (Nat → Int32) × (Nat → Int32) × (Nat → Int32) × (Nat → Int32) × (Nat → Int32) × (Nat → Int32)) (hf : fX11_later i_toldCount i_town_houses i_trial_owed i_trial_slides i_trial_struck i_trial_slid i_trial_state_now i_weather_cycle i_rule_length i_real_state_now a_trial_state_snow a_trial_state_path a_trial_state_debt a_trial_owedBy a_weather_inches a_town_hold a_town_below a_rule_things a_rule_stack a_rule_code a_real_state_snow a_real_state_path a_real_state_debt a_told p1 p2 = some o9) : CI l E yX11_later cX11_later 4 (some .int) 5 [.ref q0, .int p1, .int p2] (WX11_later E q0 q0_text q0_town q0_weather q0_rule q0_acts q0_real q0_trial q0_round q0_nights q0_before q0_history q0_kept q0_keptHouses q0_shortest q0_tracks q0_tally q0_told q0_town_hold q0_town_below q0_town_hay q0_real_state q0_real_owedBy q0_trial_state q0_trial_owedBy q0_trial_state_snow q0_trial_state_path q0_trial_state_debt q0_weather_inches q0_rule_code q0_rule_draft q0_rule_stack q0_rule_things q0_real_state_snow q0_real_state_path q0_real_state_debt i_toldCount i_town_houses i_real_owed i_real_slides i_real_struck i_real_slid i_trial_owed i_trial_slides i_trial_struck i_trial_slid i_trial_state_now i_weather_length i_weather_cycle i_rule_length i_rule_drafted i_real_state_now a_trial_state_snow a_trial_state_path a_trial_state_debt a_trial_owedBy a_weather_inches a_town_hold a_town_below a_rule_things a_rule_stack a_rule_code a_real_state_snow a_real_state_path a_real_state_debt a_told) (WX11_later E q0 q0_text q0_town q0_weather q0_rule q0_acts q0_real q0_trial q0_round q0_nights q0_before q0_history q0_kept q0_keptHouses q0_shortest q0_tracks q0_tally q0_told q0_town_hold q0_town_below q0_town_hay q0_real_state q0_real_owedBy q0_trial_state q0_trial_owedBy q0_trial_state_snow q0_trial_state_path q0_trial_state_debt q0_weather_inches q0_rule_code q0_rule_draft q0_rule_stack q0_rule_things q0_real_state_snow q0_real_state_path q0_real_state_debt o9.2.1 i_town_houses i_real_owed i_real_slides i_real_struck i_real_slid o9.2.2.1 o9.2.2.2.1 o9.2.2.2.2.1 o9.2.2.2.2.2.1 o9.2.2.2.2.2.2.1 i_weather_length i_weather_cycle i_rule_length i_rule_drafted i_real_state_now o9.2.2.2.2.2.2.2.1 o9.2.2.2.2.2.2.2.2.1 o9.2.2.2.2.2.2.2.2.2.1 o9.2.2.2.2.2.2.2.2.2.2.1 a_weather_inches a_town_hold a_town_below o9.2.2.2.2.2.2.2.2.2.2.2.1 o9.2.2.2.2.2.2.2.2.2.2.2.2.1 a_rule_code a_real_state_snow a_real_state_path a_real_state_debt o9.2.2.2.2.2.2.2.2.2.2.2.2.2) o9.1 := by
  refine begI (by decide +kernel) (Nat.le_of_ble_eq_true rfl) ?_
  intro p e s m args below meth c A Q C hA hret
  have hx := C.1
  have hb := C.2.1
  have L45 : ∀ (i_trial_owed : Int32) (i_trial_slides : Int32) (i_trial_struck : Int32) (i_trial_slid : Int32) (i_trial_state_now : Int32) (a_trial_state_snow : Nat → Int32) (a_trial_state_path : Nat → Int32) (a_trial_state_debt : Nat → Int32) (a_trial_owedBy : Nat → Int32) (a_rule_things : Nat → Int32) (a_rule_stack : Nat → Int32), ∀ (n : Nat) (v3 : Int32) (i_toldCount : Int32) (a_told : Nat → Int32) (o : Int32 × (Nat → Int32)), fX11_later_L45 i_town_houses a_trial_state_path n v3 i_toldCount a_told = some o → (GO p l e 5 s m args below meth c Q E A 4 78 [] [(0, .ref q0), (1, .int p1)] (WX11_later E q0 q0_text q0_town q0_weather q0_rule q0_acts q0_real q0_trial q0_round q0_nights q0_before q0_history q0_kept q0_keptHouses q0_shortest q0_tracks q0_tally q0_told q0_town_hold q0_town_below q0_town_hay q0_real_state q0_real_owedBy q0_trial_state q0_trial_owedBy q0_trial_state_snow q0_trial_state_path q0_trial_state_debt q0_weather_inches q0_rule_code q0_rule_draft q0_rule_stack q0_rule_things q0_real_state_snow q0_real_state_path q0_real_state_debt o.1 i_town_houses i_real_owed i_real_slides i_real_struck i_real_slid i_trial_owed i_trial_slides i_trial_struck i_trial_slid i_trial_state_now i_weather_length i_weather_cycle i_rule_length i_rule_drafted i_real_state_now a_trial_state_snow a_trial_state_path a_trial_state_debt a_trial_owedBy a_weather_inches a_town_hold a_town_below a_rule_things a_rule_stack a_rule_code a_real_state_snow a_real_state_path a_real_state_debt o.2)) → GO p l e 5 s m args below meth c Q E A 4 45 [] [(0, .ref q0), (1, .int p1), (3, .int v3)] (WX11_later E q0 q0_text q0_town q0_weather q0_rule q0_acts q0_real q0_trial q0_round q0_nights q0_before q0_history q0_kept q0_keptHouses q0_shortest q0_tracks q0_tally q0_told q0_town_hold q0_town_below q0_town_hay q0_real_state q0_real_owedBy q0_trial_state q0_trial_owedBy q0_trial_state_snow q0_trial_state_path q0_trial_state_debt q0_weather_inches q0_rule_code q0_rule_draft q0_rule_stack q0_rule_things q0_real_state_snow q0_real_state_path q0_real_state_debt i_toldCount i_town_houses i_real_owed i_real_slides i_real_struck i_real_slid i_trial_owed i_trial_slides i_trial_struck i_trial_slid i_trial_state_now i_weather_length i_weather_cycle i_rule_length i_rule_drafted i_real_state_now a_trial_state_snow a_trial_state_path a_trial_state_debt a_trial_owedBy a_weather_inches a_town_hold a_town_below a_rule_things a_rule_stack a_rule_code a_real_state_snow a_real_state_path a_real_state_debt a_told) := by
    intro i_trial_owed i_trial_slides i_trial_struck i_trial_slid i_trial_state_now a_trial_state_snow a_trial_state_path a_trial_state_debt a_trial_owedBy a_rule_things a_rule_stack
    intro n
    induction n with
    | zero =>
      intro v3 i_toldCount a_told o hf
      have hf : none = some o := hf
      cases hf
    | succ n ih =>
      intro v3 i_toldCount a_told o hf hE
      intro H locs ls hl hP hD hS
      rw [fX11_later_L45] at hf
      refine lv_iload_n hx hb dX11_later_45 rfl (lv_at hl 2 rfl) ?_
      refine lv_aload_n hx hb dX11_later_46 rfl (lv_at hl 0 rfl) ?_
      refine gf_RX11_19 C hP 0 rfl rfl dX11_later_47 ?_
      refine gf_RX11_179 C hP 1 rfl rfl dX11_later_50 ?_
      refine lv_icmp_ge (tgt := 78) hx hb dX11_later_53 (by decide) (fun c9 => ?_) (fun c9 => ?_)
      · rw [if_pos c9] at hf
        have hf := Option.some.inj hf
        subst hf
        exact hE _ _ _ (lv_sub hl [0, 1] rfl) hP hD hS
      · rw [if_neg c9] at hf
        refine lv_aload_n hx hb dX11_later_56 rfl (lv_at hl 0 rfl) ?_
        refine lv_aload_n hx hb dX11_later_57 rfl (lv_at hl 0 rfl) ?_
        refine gf_RX11_53 C hP 0 rfl rfl dX11_later_58 ?_
        refine gf_RX11_148 C hP 3 rfl rfl dX11_later_61 ?_
        refine gf_RX11_154 C hP 4 rfl rfl dX11_later_64 ?_
        refine lv_iload_n hx hb dX11_later_67 rfl (lv_at hl 2 rfl) ?_
        obtain ⟨g10, hf⟩ := gd_some hf
        refine va_iald hx hb C.2.2.2.2.2.1 hP 9 0 rfl rfl (vin_in g10) dX11_later_68 ?_
        obtain ⟨o11, hg12, hf⟩ := bd_some hf
        refine k_VV2 (As := [.int ((a_trial_state_path (v3 : Int32).toNatClampNeg))]) C K_RX11_295 (Nat.le_of_ble_eq_true rfl) (Nat.le_of_ble_eq_true rfl) (kX11_tellMore l E q0 q0_text q0_town q0_weather q0_rule q0_acts q0_real q0_trial q0_round q0_nights q0_before q0_history q0_kept q0_keptHouses q0_shortest q0_tracks q0_tally q0_told i_toldCount a_told ((a_trial_state_path (v3 : Int32).toNatClampNeg)) o11 hg12) [0, 21] rfl rfl rfl (ci := 11) rfl rfl (q0 := 0) rfl hP hD hS hA hl.1 (Nat.le_of_ble_eq_true rfl) rfl dX11_later_69 (ws2 := (WX11_later E q0 q0_text q0_town q0_weather q0_rule q0_acts q0_real q0_trial q0_round q0_nights q0_before q0_history q0_kept q0_keptHouses q0_shortest q0_tracks q0_tally q0_told q0_town_hold q0_town_below q0_town_hay q0_real_state q0_real_owedBy q0_trial_state q0_trial_owedBy q0_trial_state_snow q0_trial_state_path q0_trial_state_debt q0_weather_inches q0_rule_code q0_rule_draft q0_rule_stack q0_rule_things q0_real_state_snow q0_real_state_path q0_real_state_debt o11.1 i_town_houses i_real_owed i_real_slides i_real_struck i_real_slid i_trial_owed i_trial_slides i_trial_struck i_trial_slid i_trial_state_now i_weather_length i_weather_cycle i_rule_length i_rule_drafted i_real_state_now a_trial_state_snow a_trial_state_path a_trial_state_debt a_trial_owedBy a_weather_inches a_town_hold a_town_below a_rule_things a_rule_stack a_rule_code a_real_state_snow a_real_state_path a_real_state_debt o11.2)) 22 [1, 2, 3, 4, 5, 6, 7, 8, 9, 10, 11, 12, 13, 14, 15, 16, 17, 18, 19, 20] rfl rfl rfl rfl (by decide +kernel) (fun H locs hP hD hS => ?_)
        refine lv_iinc (v := (v3 + 1)) (lv' := [(3, .int ((v3 + 1))), (0, .ref q0), (1, .int p1)]) hx hb dX11_later_72 hl (k := 2) rfl rfl (by decide) rfl (fun ls hl => ?_)
        refine lv_goto (tgt := 45) hx hb dX11_later_75 (by decide) ?_
        exact ih ((v3 + 1)) o11.1 o11.2 _ hf hE _ _ _ (lv_sub hl [1, 2, 0] rfl) hP hD hS
  intro H locs ls hl hP hD hS
  have hl : lv_has ls 4 [(0, .ref q0), (1, .int p1), (2, .int p2)] := hl
  unfold fX11_later at hf
  refine lv_aload_n hx hb dX11_later_0 rfl (lv_at hl 0 rfl) ?_
  refine gf_RX11_19 C hP 0 rfl rfl dX11_later_1 ?_
  refine lv_iload_n hx hb dX11_later_4 rfl (lv_at hl 1 rfl) ?_
  obtain ⟨o1, hg2, hf⟩ := bd_some hf
  refine k_VI2 (As := [.int p1]) C K_RX11_267 (Nat.le_of_ble_eq_true rfl) (Nat.le_of_ble_eq_true rfl) (kX7_hasSide l E q0_town q0_town_hold q0_town_below q0_town_hay i_town_houses p1 o1 hg2) [1] rfl rfl rfl (ci := 7) rfl rfl (q0 := 0) rfl hP hD hS hA hl.1 (Nat.le_of_ble_eq_true rfl) rfl dX11_later_5 (ws2 := (WX11_later E q0 q0_text q0_town q0_weather q0_rule q0_acts q0_real q0_trial q0_round q0_nights q0_before q0_history q0_kept q0_keptHouses q0_shortest q0_tracks q0_tally q0_told q0_town_hold q0_town_below q0_town_hay q0_real_state q0_real_owedBy q0_trial_state q0_trial_owedBy q0_trial_state_snow q0_trial_state_path q0_trial_state_debt q0_weather_inches q0_rule_code q0_rule_draft q0_rule_stack q0_rule_things q0_real_state_snow q0_real_state_path q0_real_state_debt i_toldCount i_town_houses i_real_owed i_real_slides i_real_struck i_real_slid i_trial_owed i_trial_slides i_trial_struck i_trial_slid i_trial_state_now i_weather_length i_weather_cycle i_rule_length i_rule_drafted i_real_state_now a_trial_state_snow a_trial_state_path a_trial_state_debt a_trial_owedBy a_weather_inches a_town_hold a_town_below a_rule_things a_rule_stack a_rule_code a_real_state_snow a_real_state_path a_real_state_debt a_told)) 22 [0, 2, 3, 4, 5, 6, 7, 8, 9, 10, 11, 12, 13, 14, 15, 16, 17, 18, 19, 20, 21] rfl rfl rfl rfl (by decide +kernel) (fun H locs hP hD hS => ?_)
  refine lv_if_eq (tgt := 21) hx hb dX11_later_8 (by decide) (fun c3 => ?_) (fun c3 => ?_)
  · rw [if_pos c3] at hf
    refine lv_iconst (v := (-1)) hx hb dX11_later_21 (by decide) ?_
    have hj0 := Option.some.inj hf
    subst hj0
    exact hret _ _ _ _ dX11_later_22 rfl hP hD hS
  · rw [if_neg c3] at hf
    refine lv_iload_n hx hb dX11_later_11 rfl (lv_at hl 2 rfl) ?_
    refine lv_iconst (v := 0) hx hb dX11_later_12 (by decide) ?_
    refine lv_bipush (v := 60) hx hb dX11_later_13 (by decide) ?_
    obtain ⟨o4, hg5, hf⟩ := bd_some hf
    refine k_SI2 (As := [.int p2, .int 0, .int 60]) C K_RX11_128 (Nat.le_of_ble_eq_true rfl) (Nat.le_of_ble_eq_true rfl) (kX11_isWithin l E p2 0 60 o4 hg5) [] rfl rfl rfl  hP hD hS hA hl.1 (Nat.le_of_ble_eq_true rfl) rfl dX11_later_15 (ws2 := (WX11_later E q0 q0_text q0_town q0_weather q0_rule q0_acts q0_real q0_trial q0_round q0_nights q0_before q0_history q0_kept q0_keptHouses q0_shortest q0_tracks q0_tally q0_told q0_town_hold q0_town_below q0_town_hay q0_real_state q0_real_owedBy q0_trial_state q0_trial_owedBy q0_trial_state_snow q0_trial_state_path q0_trial_state_debt q0_weather_inches q0_rule_code q0_rule_draft q0_rule_stack q0_rule_things q0_real_state_snow q0_real_state_path q0_real_state_debt i_toldCount i_town_houses i_real_owed i_real_slides i_real_struck i_real_slid i_trial_owed i_trial_slides i_trial_struck i_trial_slid i_trial_state_now i_weather_length i_weather_cycle i_rule_length i_rule_drafted i_real_state_now a_trial_state_snow a_trial_state_path a_trial_state_debt a_trial_owedBy a_weather_inches a_town_hold a_town_below a_rule_things a_rule_stack a_rule_code a_real_state_snow a_real_state_path a_real_state_debt a_told)) 22 [0, 1, 2, 3, 4, 5, 6, 7, 8, 9, 10, 11, 12, 13, 14, 15, 16, 17, 18, 19, 20, 21] rfl rfl rfl rfl (by decide +kernel) (fun H locs hP hD hS => ?_)
    refine lv_if_ne (tgt := 23) hx hb dX11_later_18 (by decide) (fun c6 => ?_) (fun c6 => ?_)
    · rw [if_neg c6] at hf
      refine lv_aload_n hx hb dX11_later_23 rfl (lv_at hl 0 rfl) ?_
      refine gf_RX11_53 C hP 0 rfl rfl dX11_later_24 ?_
      refine lv_aload_n hx hb dX11_later_27 rfl (lv_at hl 0 rfl) ?_
      refine gf_RX11_49 C hP 0 rfl rfl dX11_later_28 ?_
      refine gf_RX11_148 C hP 2 rfl rfl dX11_later_31 ?_
      refine lv_iload_n hx hb dX11_later_34 rfl (lv_at hl 2 rfl) ?_
      obtain ⟨o7, hg8, hf⟩ := bd_some hf
      refine k_VV2 (As := [.ref q0_real_state, .int p2]) C K_RX11_331 (Nat.le_of_ble_eq_true rfl) (Nat.le_of_ble_eq_true rfl) (kX9_walkFrom l E q0_trial q0_town q0_weather q0_rule q0_trial_state q0_trial_owedBy q0_trial_state_snow q0_trial_state_path q0_trial_state_debt q0_weather_inches q0_town_hold q0_town_below q0_town_hay q0_rule_code q0_rule_draft q0_rule_stack q0_rule_things q0_real_state q0_real_state_snow q0_real_state_path q0_real_state_debt i_trial_owed i_trial_slides i_trial_struck i_trial_slid i_trial_state_now a_trial_state_snow a_trial_state_path a_trial_state_debt a_trial_owedBy i_weather_length i_weather_cycle i_town_houses i_rule_length i_rule_drafted a_weather_inches a_town_hold a_town_below a_rule_things a_rule_stack a_rule_code i_real_state_now a_real_state_snow a_real_state_path a_real_state_debt p2 o7.1 o7.2.1 o7.2.2.1 o7.2.2.2.1 o7.2.2.2.2.1 o7.2.2.2.2.2.1 o7.2.2.2.2.2.2.1 o7.2.2.2.2.2.2.2.1 o7.2.2.2.2.2.2.2.2.1 o7.2.2.2.2.2.2.2.2.2.1 o7.2.2.2.2.2.2.2.2.2.2 hg8) [3, 4, 8, 9, 10, 11, 5, 1, 6, 12, 13, 14, 15, 16, 17, 7, 18, 19, 20] rfl rfl rfl (ci := 9) rfl rfl (q0 := 0) rfl hP hD hS hA hl.1 (Nat.le_of_ble_eq_true rfl) rfl dX11_later_35 (ws2 := (WX11_later E q0 q0_text q0_town q0_weather q0_rule q0_acts q0_real q0_trial q0_round q0_nights q0_before q0_history q0_kept q0_keptHouses q0_shortest q0_tracks q0_tally q0_told q0_town_hold q0_town_below q0_town_hay q0_real_state q0_real_owedBy q0_trial_state q0_trial_owedBy q0_trial_state_snow q0_trial_state_path q0_trial_state_debt q0_weather_inches q0_rule_code q0_rule_draft q0_rule_stack q0_rule_things q0_real_state_snow q0_real_state_path q0_real_state_debt i_toldCount i_town_houses i_real_owed i_real_slides i_real_struck i_real_slid o7.1 o7.2.1 o7.2.2.1 o7.2.2.2.1 o7.2.2.2.2.1 i_weather_length i_weather_cycle i_rule_length i_rule_drafted i_real_state_now o7.2.2.2.2.2.1 o7.2.2.2.2.2.2.1 o7.2.2.2.2.2.2.2.1 o7.2.2.2.2.2.2.2.2.1 a_weather_inches a_town_hold a_town_below o7.2.2.2.2.2.2.2.2.2.1 o7.2.2.2.2.2.2.2.2.2.2 a_rule_code a_real_state_snow a_real_state_path a_real_state_debt a_told)) 22 [0, 2, 21] rfl rfl rfl rfl (by decide +kernel) (fun H locs hP hD hS => ?_)
      refine lv_aload_n hx hb dX11_later_38 rfl (lv_at hl 0 rfl) ?_
      refine lv_iconst (v := 0) hx hb dX11_later_39 (by decide) ?_
      refine pf_RX11_288 C hP hD hS 0 rfl (Nat.le_of_ble_eq_true rfl) dX11_later_40 (fun H locs hP hD hS => ?_)
      have hP : va_P E.1 classes (WX11_later E q0 q0_text q0_town q0_weather q0_rule q0_acts q0_real q0_trial q0_round q0_nights q0_before q0_history q0_kept q0_keptHouses q0_shortest q0_tracks q0_tally q0_told q0_town_hold q0_town_below q0_town_hay q0_real_state q0_real_owedBy q0_trial_state q0_trial_owedBy q0_trial_state_snow q0_trial_state_path q0_trial_state_debt q0_weather_inches q0_rule_code q0_rule_draft q0_rule_stack q0_rule_things q0_real_state_snow q0_real_state_path q0_real_state_debt 0 i_town_houses i_real_owed i_real_slides i_real_struck i_real_slid o7.1 o7.2.1 o7.2.2.1 o7.2.2.2.1 o7.2.2.2.2.1 i_weather_length i_weather_cycle i_rule_length i_rule_drafted i_real_state_now o7.2.2.2.2.2.1 o7.2.2.2.2.2.2.1 o7.2.2.2.2.2.2.2.1 o7.2.2.2.2.2.2.2.2.1 a_weather_inches a_town_hold a_town_below o7.2.2.2.2.2.2.2.2.2.1 o7.2.2.2.2.2.2.2.2.2.2 a_rule_code a_real_state_snow a_real_state_path a_real_state_debt a_told) H := hP
      have hD : va_D A (WX11_later E q0 q0_text q0_town q0_weather q0_rule q0_acts q0_real q0_trial q0_round q0_nights q0_before q0_history q0_kept q0_keptHouses q0_shortest q0_tracks q0_tally q0_told q0_town_hold q0_town_below q0_town_hay q0_real_state q0_real_owedBy q0_trial_state q0_trial_owedBy q0_trial_state_snow q0_trial_state_path q0_trial_state_debt q0_weather_inches q0_rule_code q0_rule_draft q0_rule_stack q0_rule_things q0_real_state_snow q0_real_state_path q0_real_state_debt 0 i_town_houses i_real_owed i_real_slides i_real_struck i_real_slid o7.1 o7.2.1 o7.2.2.1 o7.2.2.2.1 o7.2.2.2.2.1 i_weather_length i_weather_cycle i_rule_length i_rule_drafted i_real_state_now o7.2.2.2.2.2.1 o7.2.2.2.2.2.2.1 o7.2.2.2.2.2.2.2.1 o7.2.2.2.2.2.2.2.2.1 a_weather_inches a_town_hold a_town_below o7.2.2.2.2.2.2.2.2.2.1 o7.2.2.2.2.2.2.2.2.2.2 a_rule_code a_real_state_snow a_real_state_path a_real_state_debt a_told) := hD
      refine lv_iconst (v := 0) hx hb dX11_later_43 (by decide) ?_
      refine lv_istore_n (lv' := [(3, .int 0), (0, .ref q0), (1, .int p1), (2, .int p2)]) hx hb dX11_later_44 rfl hl (by decide) rfl (fun ls hl => ?_)
      obtain ⟨o13, hg14, hf⟩ := bd_some hf
      refine L45 o7.1 o7.2.1 o7.2.2.1 o7.2.2.2.1 o7.2.2.2.2.1 o7.2.2.2.2.2.1 o7.2.2.2.2.2.2.1 o7.2.2.2.2.2.2.2.1 o7.2.2.2.2.2.2.2.2.1 o7.2.2.2.2.2.2.2.2.2.1 o7.2.2.2.2.2.2.2.2.2.2 FU 0 0 a_told o13 hg14 ?_ _ _ _ (lv_sub hl [1, 2, 0] rfl) hP hD hS
      intro H locs ls hl hP hD hS
      refine lv_aload_n hx hb dX11_later_78 rfl (lv_at hl 0 rfl) ?_
      refine gf_RX11_53 C hP 0 rfl rfl dX11_later_79 ?_
      refine gf_RX11_148 C hP 3 rfl rfl dX11_later_82 ?_
      refine gf_RX11_151 C hP 4 rfl rfl dX11_later_85 ?_
      refine lv_iload_n hx hb dX11_later_88 rfl (lv_at hl 1 rfl) ?_
      obtain ⟨g15, hf⟩ := gd_some hf
      refine va_iald hx hb C.2.2.2.2.2.1 hP 8 0 rfl rfl (vin_in g15) dX11_later_89 ?_
      have hj0 := Option.some.inj hf
      subst hj0
      exact hret _ _ _ _ dX11_later_90 rfl hP hD hS
    · rw [if_pos c6] at hf
      refine lv_iconst (v := (-1)) hx hb dX11_later_21 (by decide) ?_
      have hj0 := Option.some.inj hf
      subst hj0
      exact hret _ _ _ _ dX11_later_22 rfl hP hD hS
