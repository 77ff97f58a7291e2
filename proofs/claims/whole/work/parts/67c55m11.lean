theorem dX11_needs_0 : decode cX11_needs 0 = .ok (.aload_n 0, 1) := by decide +kernel
theorem dX11_needs_1 : decode cX11_needs 1 = .ok (.getfield 19, 3) := by decide +kernel
theorem dX11_needs_4 : decode cX11_needs 4 = .ok (.iload_n 1, 1) := by decide +kernel
theorem dX11_needs_5 : decode cX11_needs 5 = .ok (.invokevirtual 139, 3) := by decide +kernel
theorem dX11_needs_8 : decode cX11_needs 8 = .ok (.ifCond .eq 13, 3) := by decide +kernel
theorem dX11_needs_11 : decode cX11_needs 11 = .ok (.iload_n 2, 1) := by decide +kernel
theorem dX11_needs_12 : decode cX11_needs 12 = .ok (.iconst 0, 1) := by decide +kernel
theorem dX11_needs_13 : decode cX11_needs 13 = .ok (.bipush 60, 2) := by decide +kernel
theorem dX11_needs_15 : decode cX11_needs 15 = .ok (.invokestatic 128, 3) := by decide +kernel
theorem dX11_needs_18 : decode cX11_needs 18 = .ok (.ifCond .ne 5, 3) := by decide +kernel
theorem dX11_needs_21 : decode cX11_needs 21 = .ok (.iconst (-1), 1) := by decide +kernel
theorem dX11_needs_22 : decode cX11_needs 22 = .ok (.ireturn, 1) := by decide +kernel
theorem dX11_needs_23 : decode cX11_needs 23 = .ok (.aload_n 0, 1) := by decide +kernel
theorem dX11_needs_24 : decode cX11_needs 24 = .ok (.getfield 19, 3) := by decide +kernel
theorem dX11_needs_27 : decode cX11_needs 27 = .ok (.getfield 145, 3) := by decide +kernel
theorem dX11_needs_30 : decode cX11_needs 30 = .ok (.iload_n 1, 1) := by decide +kernel
theorem dX11_needs_31 : decode cX11_needs 31 = .ok (.iaload, 1) := by decide +kernel
theorem dX11_needs_32 : decode cX11_needs 32 = .ok (.istore_n 3, 1) := by decide +kernel
theorem dX11_needs_33 : decode cX11_needs 33 = .ok (.bipush (-2), 2) := by decide +kernel
theorem dX11_needs_35 : decode cX11_needs 35 = .ok (.istore 4, 2) := by decide +kernel
theorem dX11_needs_37 : decode cX11_needs 37 = .ok (.iconst 1, 1) := by decide +kernel
theorem dX11_needs_38 : decode cX11_needs 38 = .ok (.istore 5, 2) := by decide +kernel
theorem dX11_needs_40 : decode cX11_needs 40 = .ok (.iload 5, 2) := by decide +kernel
theorem dX11_needs_42 : decode cX11_needs 42 = .ok (.bipush 99, 2) := by decide +kernel
theorem dX11_needs_44 : decode cX11_needs 44 = .ok (.if_icmp .gt 40, 3) := by decide +kernel
theorem dX11_needs_47 : decode cX11_needs 47 = .ok (.iload 4, 2) := by decide +kernel
theorem dX11_needs_49 : decode cX11_needs 49 = .ok (.bipush (-2), 2) := by decide +kernel
theorem dX11_needs_51 : decode cX11_needs 51 = .ok (.if_icmp .ne 33, 3) := by decide +kernel
theorem dX11_needs_54 : decode cX11_needs 54 = .ok (.aload_n 0, 1) := by decide +kernel
theorem dX11_needs_55 : decode cX11_needs 55 = .ok (.getfield 19, 3) := by decide +kernel
theorem dX11_needs_58 : decode cX11_needs 58 = .ok (.getfield 145, 3) := by decide +kernel
theorem dX11_needs_61 : decode cX11_needs 61 = .ok (.iload_n 1, 1) := by decide +kernel
theorem dX11_needs_62 : decode cX11_needs 62 = .ok (.iload 5, 2) := by decide +kernel
theorem dX11_needs_64 : decode cX11_needs 64 = .ok (.iastore, 1) := by decide +kernel
theorem dX11_needs_65 : decode cX11_needs 65 = .ok (.aload_n 0, 1) := by decide +kernel
theorem dX11_needs_66 : decode cX11_needs 66 = .ok (.iload_n 1, 1) := by decide +kernel
theorem dX11_needs_67 : decode cX11_needs 67 = .ok (.iload_n 2, 1) := by decide +kernel
theorem dX11_needs_68 : decode cX11_needs 68 = .ok (.invokevirtual 391, 3) := by decide +kernel
theorem dX11_needs_71 : decode cX11_needs 71 = .ok (.ifCond .eq 7, 3) := by decide +kernel
theorem dX11_needs_74 : decode cX11_needs 74 = .ok (.iload 5, 2) := by decide +kernel
theorem dX11_needs_76 : decode cX11_needs 76 = .ok (.istore 4, 2) := by decide +kernel
theorem dX11_needs_78 : decode cX11_needs 78 = .ok (.iinc 5 1, 3) := by decide +kernel
theorem dX11_needs_81 : decode cX11_needs 81 = .ok (.goto (-41), 3) := by decide +kernel
theorem dX11_needs_84 : decode cX11_needs 84 = .ok (.aload_n 0, 1) := by decide +kernel
theorem dX11_needs_85 : decode cX11_needs 85 = .ok (.getfield 19, 3) := by decide +kernel
theorem dX11_needs_88 : decode cX11_needs 88 = .ok (.getfield 145, 3) := by decide +kernel
theorem dX11_needs_91 : decode cX11_needs 91 = .ok (.iload_n 1, 1) := by decide +kernel
theorem dX11_needs_92 : decode cX11_needs 92 = .ok (.iload_n 3, 1) := by decide +kernel
theorem dX11_needs_93 : decode cX11_needs 93 = .ok (.iastore, 1) := by decide +kernel
theorem dX11_needs_94 : decode cX11_needs 94 = .ok (.iload 4, 2) := by decide +kernel
theorem dX11_needs_96 : decode cX11_needs 96 = .ok (.ireturn, 1) := by decide +kernel
def WX11_needs (E : ENV) (q0 : Nat) (q0_text : Nat) (q0_town : Nat) (q0_weather : Nat) (q0_rule : Nat) (q0_acts : Nat) (q0_real : Nat) (q0_trial : Nat) (q0_round : Nat) (q0_nights : Nat) (q0_before : Nat) (q0_history : Nat) (q0_kept : Nat) (q0_keptHouses : Nat) (q0_shortest : Nat) (q0_tracks : Nat) (q0_tally : Nat) (q0_told : Nat) (q0_town_hold : Nat) (q0_town_below : Nat) (q0_town_hay : Nat) (q0_real_state : Nat) (q0_real_owedBy : Nat) (q0_trial_state : Nat) (q0_trial_owedBy : Nat) (q0_trial_state_snow : Nat) (q0_trial_state_path : Nat) (q0_trial_state_debt : Nat) (q0_real_state_snow : Nat) (q0_real_state_path : Nat) (q0_real_state_debt : Nat) (q0_weather_inches : Nat) (q0_rule_code : Nat) (q0_rule_draft : Nat) (q0_rule_stack : Nat) (q0_rule_things : Nat) (i_toldCount : Int32) (i_town_houses : Int32) (a_town_hold : Nat → Int32) (i_real_owed : Int32) (i_real_slides : Int32) (i_real_struck : Int32) (i_real_slid : Int32) (i_trial_owed : Int32) (i_trial_slides : Int32) (i_trial_struck : Int32) (i_trial_slid : Int32) (i_trial_state_now : Int32) (i_real_state_now : Int32) (i_weather_length : Int32) (i_weather_cycle : Int32) (i_rule_length : Int32) (i_rule_drafted : Int32) (a_trial_state_snow : Nat → Int32) (a_trial_state_path : Nat → Int32) (a_trial_state_debt : Nat → Int32) (a_trial_owedBy : Nat → Int32) (a_real_state_snow : Nat → Int32) (a_real_state_path : Nat → Int32) (a_real_state_debt : Nat → Int32) (a_weather_inches : Nat → Int32) (a_town_below : Nat → Int32) (a_rule_things : Nat → Int32) (a_rule_stack : Nat → Int32) (a_rule_code : Nat → Int32) : va_W := [(q0, .inr (11, [.ref q0_text, .ref q0_town, .ref q0_weather, .ref q0_rule, .ref q0_acts, .ref q0_real, .ref q0_trial, .ref q0_round, .ref q0_nights, .ref q0_before, .ref q0_history, .ref q0_kept, .ref q0_keptHouses, .ref q0_shortest, .ref q0_tracks, .ref q0_tally, .ref q0_told, .int i_toldCount])), (q0_town, .inr (7, [.ref q0_town_hold, .ref q0_town_below, .ref q0_town_hay, .int i_town_houses])), (q0_town_hold, .inl (E.2.1, 7, .inl a_town_hold)), (q0_real, .inr (9, [.ref q0_town, .ref q0_weather, .ref q0_rule, .ref q0_real_state, .ref q0_real_owedBy, .int i_real_owed, .int i_real_slides, .int i_real_struck, .int i_real_slid])), (q0_trial, .inr (9, [.ref q0_town, .ref q0_weather, .ref q0_rule, .ref q0_trial_state, .ref q0_trial_owedBy, .int i_trial_owed, .int i_trial_slides, .int i_trial_struck, .int i_trial_slid])), (q0_trial_state, .inr (5, [.ref q0_trial_state_snow, .ref q0_trial_state_path, .ref q0_trial_state_debt, .int i_trial_state_now])), (q0_real_state, .inr (5, [.ref q0_real_state_snow, .ref q0_real_state_path, .ref q0_real_state_debt, .int i_real_state_now])), (q0_weather, .inr (10, [.ref q0_weather_inches, .int i_weather_length, .int i_weather_cycle])), (q0_rule, .inr (4, [.ref q0_rule_code, .ref q0_rule_draft, .ref q0_rule_stack, .ref q0_rule_things, .int i_rule_length, .int i_rule_drafted])), (q0_trial_state_snow, .inl (E.2.1, 14, .inl a_trial_state_snow)), (q0_trial_state_path, .inl (E.2.1, 7, .inl a_trial_state_path)), (q0_trial_state_debt, .inl (E.2.1, 49, .inl a_trial_state_debt)), (q0_trial_owedBy, .inl (E.2.1, 7, .inl a_trial_owedBy)), (q0_real_state_snow, .inl (E.2.1, 14, .inl a_real_state_snow)), (q0_real_state_path, .inl (E.2.1, 7, .inl a_real_state_path)), (q0_real_state_debt, .inl (E.2.1, 49, .inl a_real_state_debt)), (q0_weather_inches, .inl (E.2.1, 40, .inl a_weather_inches)), (q0_town_below, .inl (E.2.1, 14, .inl a_town_below)), (q0_rule_things, .inl (E.2.1, 8, .inl a_rule_things)), (q0_rule_stack, .inl (E.2.1, 40, .inl a_rule_stack)), (q0_rule_code, .inl (E.2.1, 40, .inl a_rule_code))]
set_option maxHeartbeats 4000000 in
set_option maxRecDepth 20000 in
theorem kX11_needs (l : Launch) (E : ENV) (q0 : Nat) (q0_text : Nat) (q0_town : Nat) (q0_weather : Nat) (q0_rule : Nat) (q0_acts : Nat) (q0_real : Nat) (q0_trial : Nat) (q0_round : Nat) (q0_nights : Nat) (q0_before : Nat) (q0_history : Nat) (q0_kept : Nat) (q0_keptHouses : Nat) (q0_shortest : Nat) (q0_tracks : Nat) (q0_tally : Nat) (q0_told : Nat) (q0_town_hold : Nat) (q0_town_below : Nat) (q0_town_hay : Nat) (q0_real_state : Nat) (q0_real_owedBy : Nat) (q0_trial_state : Nat) (q0_trial_owedBy : Nat) (q0_trial_state_snow : Nat) (q0_trial_state_path : Nat) (q0_trial_state_debt : Nat) (q0_real_state_snow : Nat) (q0_real_state_path : Nat) (q0_real_state_debt : Nat) (q0_weather_inches : Nat) (q0_rule_code : Nat) (q0_rule_draft : Nat) (q0_rule_stack : Nat) (q0_rule_things : Nat) (i_toldCount : Int32) (i_town_houses : Int32) (a_town_hold : Nat → Int32) (i_real_owed : Int32) (i_real_slides : Int32) (i_real_struck : Int32) (i_real_slid : Int32) (i_trial_owed : Int32) (i_trial_slides : Int32) (i_trial_struck : Int32) (i_trial_slid : Int32) (i_trial_state_now : Int32) (i_real_state_now : Int32) (i_weather_length : Int32) (i_weather_cycle : Int32) (i_rule_length : Int32) (i_rule_drafted : Int32) (a_trial_state_snow : Nat → Int32) (a_trial_state_path : Nat → Int32) (a_trial_state_debt : Nat → Int32) (a_trial_owedBy : Nat → Int32) (a_real_state_snow : Nat → Int32) (a_real_state_path : Nat → Int32) (a_real_state_debt : Nat → Int32) (a_weather_inches : Nat → Int32) (a_town_below : Nat → Int32) (a_rule_things : Nat → Int32) (a_rule_stack : Nat → Int32) (a_rule_code : Nat → Int32) (p1 : Int32) (p2 : Int32) (o9 : Int32 × (Nat → Int32) × Int32 × Int32 × Int32 × Int32 × Int32 × (Nat → Int32) × (Nat → Int32) × (Nat → Int32) × (Nat → Int32) × (Nat → Int32) × (Nat → Int32)) (hf : fX11_needs i_town_houses a_town_hold i_trial_owed i_trial_slides i_trial_struck i_trial_slid i_trial_state_now i_real_state_now i_weather_cycle i_rule_length a_trial_state_snow a_trial_state_path a_trial_state_debt a_trial_owedBy a_real_state_snow a_real_state_path a_real_state_debt a_weather_inches a_town_below a_rule_things a_rule_stack a_rule_code p1 p2 = some o9) : CI l E yX11_needs cX11_needs 6 (some .int) 5 [.ref q0, .int p1, .int p2] (WX11_needs E q0 q0_text q0_town q0_weather q0_rule q0_acts q0_real q0_trial q0_round q0_nights q0_before q0_history q0_kept q0_keptHouses q0_shortest q0_tracks q0_tally q0_told q0_town_hold q0_town_below q0_town_hay q0_real_state q0_real_owedBy q0_trial_state q0_trial_owedBy q0_trial_state_snow q0_trial_state_path q0_trial_state_debt q0_real_state_snow q0_real_state_path q0_real_state_debt q0_weather_inches q0_rule_code q0_rule_draft q0_rule_stack q0_rule_things i_toldCount i_town_houses a_town_hold i_real_owed i_real_slides i_real_struck i_real_slid i_trial_owed i_trial_slides i_trial_struck i_trial_slid i_trial_state_now i_real_state_now i_weather_length i_weather_cycle i_rule_length i_rule_drafted a_trial_state_snow a_trial_state_path a_trial_state_debt a_trial_owedBy a_real_state_snow a_real_state_path a_real_state_debt a_weather_inches a_town_below a_rule_things a_rule_stack a_rule_code) (WX11_needs E q0 q0_text q0_town q0_weather q0_rule q0_acts q0_real q0_trial q0_round q0_nights q0_before q0_history q0_kept q0_keptHouses q0_shortest q0_tracks q0_tally q0_told q0_town_hold q0_town_below q0_town_hay q0_real_state q0_real_owedBy q0_trial_state q0_trial_owedBy q0_trial_state_snow q0_trial_state_path q0_trial_state_debt q0_real_state_snow q0_real_state_path q0_real_state_debt q0_weather_inches q0_rule_code q0_rule_draft q0_rule_stack q0_rule_things i_toldCount i_town_houses o9.2.1 i_real_owed i_real_slides i_real_struck i_real_slid o9.2.2.1 o9.2.2.2.1 o9.2.2.2.2.1 o9.2.2.2.2.2.1 o9.2.2.2.2.2.2.1 i_real_state_now i_weather_length i_weather_cycle i_rule_length i_rule_drafted o9.2.2.2.2.2.2.2.1 o9.2.2.2.2.2.2.2.2.1 o9.2.2.2.2.2.2.2.2.2.1 o9.2.2.2.2.2.2.2.2.2.2.1 a_real_state_snow a_real_state_path a_real_state_debt a_weather_inches a_town_below o9.2.2.2.2.2.2.2.2.2.2.2.1 o9.2.2.2.2.2.2.2.2.2.2.2.2 a_rule_code) o9.1 := by
  refine begI (by decide +kernel) (Nat.le_of_ble_eq_true rfl) ?_
  intro p e s m args below meth c A Q C hA hret
  have hx := C.1
  have hb := C.2.1
  have L40 : ∀ (v3 : Int32), ∀ (n : Nat) (v4 : Int32) (v5 : Int32) (a_town_hold : Nat → Int32) (i_trial_owed : Int32) (i_trial_slides : Int32) (i_trial_struck : Int32) (i_trial_slid : Int32) (i_trial_state_now : Int32) (a_trial_state_snow : Nat → Int32) (a_trial_state_path : Nat → Int32) (a_trial_state_debt : Nat → Int32) (a_trial_owedBy : Nat → Int32) (a_rule_things : Nat → Int32) (a_rule_stack : Nat → Int32) (o : Int32 × (Nat → Int32) × Int32 × Int32 × Int32 × Int32 × Int32 × (Nat → Int32) × (Nat → Int32) × (Nat → Int32) × (Nat → Int32) × (Nat → Int32) × (Nat → Int32)), fX11_needs_L40 i_town_houses i_real_state_now i_weather_cycle i_rule_length a_real_state_snow a_real_state_path a_real_state_debt a_weather_inches a_town_below a_rule_code p1 p2 n v4 v5 a_town_hold i_trial_owed i_trial_slides i_trial_struck i_trial_slid i_trial_state_now a_trial_state_snow a_trial_state_path a_trial_state_debt a_trial_owedBy a_rule_things a_rule_stack = some o → (GO p l e 5 s m args below meth c Q E A 6 84 [] [(0, .ref q0), (1, .int p1), (3, .int v3), (4, .int o.1)] (WX11_needs E q0 q0_text q0_town q0_weather q0_rule q0_acts q0_real q0_trial q0_round q0_nights q0_before q0_history q0_kept q0_keptHouses q0_shortest q0_tracks q0_tally q0_told q0_town_hold q0_town_below q0_town_hay q0_real_state q0_real_owedBy q0_trial_state q0_trial_owedBy q0_trial_state_snow q0_trial_state_path q0_trial_state_debt q0_real_state_snow q0_real_state_path q0_real_state_debt q0_weather_inches q0_rule_code q0_rule_draft q0_rule_stack q0_rule_things i_toldCount i_town_houses o.2.1 i_real_owed i_real_slides i_real_struck i_real_slid o.2.2.1 o.2.2.2.1 o.2.2.2.2.1 o.2.2.2.2.2.1 o.2.2.2.2.2.2.1 i_real_state_now i_weather_length i_weather_cycle i_rule_length i_rule_drafted o.2.2.2.2.2.2.2.1 o.2.2.2.2.2.2.2.2.1 o.2.2.2.2.2.2.2.2.2.1 o.2.2.2.2.2.2.2.2.2.2.1 a_real_state_snow a_real_state_path a_real_state_debt a_weather_inches a_town_below o.2.2.2.2.2.2.2.2.2.2.2.1 o.2.2.2.2.2.2.2.2.2.2.2.2 a_rule_code)) → GO p l e 5 s m args below meth c Q E A 6 40 [] [(0, .ref q0), (1, .int p1), (2, .int p2), (3, .int v3), (4, .int v4), (5, .int v5)] (WX11_needs E q0 q0_text q0_town q0_weather q0_rule q0_acts q0_real q0_trial q0_round q0_nights q0_before q0_history q0_kept q0_keptHouses q0_shortest q0_tracks q0_tally q0_told q0_town_hold q0_town_below q0_town_hay q0_real_state q0_real_owedBy q0_trial_state q0_trial_owedBy q0_trial_state_snow q0_trial_state_path q0_trial_state_debt q0_real_state_snow q0_real_state_path q0_real_state_debt q0_weather_inches q0_rule_code q0_rule_draft q0_rule_stack q0_rule_things i_toldCount i_town_houses a_town_hold i_real_owed i_real_slides i_real_struck i_real_slid i_trial_owed i_trial_slides i_trial_struck i_trial_slid i_trial_state_now i_real_state_now i_weather_length i_weather_cycle i_rule_length i_rule_drafted a_trial_state_snow a_trial_state_path a_trial_state_debt a_trial_owedBy a_real_state_snow a_real_state_path a_real_state_debt a_weather_inches a_town_below a_rule_things a_rule_stack a_rule_code) := by
    intro v3
    intro n
    induction n with
    | zero =>
      intro v4 v5 a_town_hold i_trial_owed i_trial_slides i_trial_struck i_trial_slid i_trial_state_now a_trial_state_snow a_trial_state_path a_trial_state_debt a_trial_owedBy a_rule_things a_rule_stack o hf
      have hf : none = some o := hf
      cases hf
    | succ n ih =>
      intro v4 v5 a_town_hold i_trial_owed i_trial_slides i_trial_struck i_trial_slid i_trial_state_now a_trial_state_snow a_trial_state_path a_trial_state_debt a_trial_owedBy a_rule_things a_rule_stack o hf hE
      intro H locs ls hl hP hD hS
      rw [fX11_needs_L40] at hf
      refine lv_iload hx hb dX11_needs_40 (lv_at hl 5 rfl) ?_
      refine lv_bipush (v := 99) hx hb dX11_needs_42 (by decide) ?_
      refine lv_icmp_gt (tgt := 84) hx hb dX11_needs_44 (by decide) (fun c8 => ?_) (fun c8 => ?_)
      · rw [if_pos c8] at hf
        have hf := Option.some.inj hf
        subst hf
        exact hE _ _ _ (lv_sub hl [0, 1, 3, 4] rfl) hP hD hS
      · rw [if_neg c8] at hf
        refine lv_iload hx hb dX11_needs_47 (lv_at hl 4 rfl) ?_
        refine lv_bipush (v := (-2)) hx hb dX11_needs_49 (by decide) ?_
        refine lv_icmp_ne (tgt := 84) hx hb dX11_needs_51 (by decide) (fun c9 => ?_) (fun c9 => ?_)
        · rw [if_neg c9] at hf
          have hf := Option.some.inj hf
          subst hf
          exact hE _ _ _ (lv_sub hl [0, 1, 3, 4] rfl) hP hD hS
        · rw [if_pos c9] at hf
          refine lv_aload_n hx hb dX11_needs_54 rfl (lv_at hl 0 rfl) ?_
          refine gf_RX11_19 C hP 0 rfl rfl dX11_needs_55 ?_
          refine gf_RX11_145 C hP 1 rfl rfl dX11_needs_58 ?_
          refine lv_iload_n hx hb dX11_needs_61 rfl (lv_at hl 1 rfl) ?_
          refine lv_iload hx hb dX11_needs_62 (lv_at hl 5 rfl) ?_
          obtain ⟨g10, hf⟩ := gd_some hf
          refine va_iast hx hb C.2.2.2.2.2.1 hP hD hS 2 0 rfl rfl (vin_in g10) dX11_needs_64 (fun H locs hP hD hS => ?_)
          have hP : va_P E.1 classes (WX11_needs E q0 q0_text q0_town q0_weather q0_rule q0_acts q0_real q0_trial q0_round q0_nights q0_before q0_history q0_kept q0_keptHouses q0_shortest q0_tracks q0_tally q0_told q0_town_hold q0_town_below q0_town_hay q0_real_state q0_real_owedBy q0_trial_state q0_trial_owedBy q0_trial_state_snow q0_trial_state_path q0_trial_state_debt q0_real_state_snow q0_real_state_path q0_real_state_debt q0_weather_inches q0_rule_code q0_rule_draft q0_rule_stack q0_rule_things i_toldCount i_town_houses ((upd a_town_hold (p1 : Int32).toNatClampNeg v5)) i_real_owed i_real_slides i_real_struck i_real_slid i_trial_owed i_trial_slides i_trial_struck i_trial_slid i_trial_state_now i_real_state_now i_weather_length i_weather_cycle i_rule_length i_rule_drafted a_trial_state_snow a_trial_state_path a_trial_state_debt a_trial_owedBy a_real_state_snow a_real_state_path a_real_state_debt a_weather_inches a_town_below a_rule_things a_rule_stack a_rule_code) H := hP
          have hD : va_D A (WX11_needs E q0 q0_text q0_town q0_weather q0_rule q0_acts q0_real q0_trial q0_round q0_nights q0_before q0_history q0_kept q0_keptHouses q0_shortest q0_tracks q0_tally q0_told q0_town_hold q0_town_below q0_town_hay q0_real_state q0_real_owedBy q0_trial_state q0_trial_owedBy q0_trial_state_snow q0_trial_state_path q0_trial_state_debt q0_real_state_snow q0_real_state_path q0_real_state_debt q0_weather_inches q0_rule_code q0_rule_draft q0_rule_stack q0_rule_things i_toldCount i_town_houses ((upd a_town_hold (p1 : Int32).toNatClampNeg v5)) i_real_owed i_real_slides i_real_struck i_real_slid i_trial_owed i_trial_slides i_trial_struck i_trial_slid i_trial_state_now i_real_state_now i_weather_length i_weather_cycle i_rule_length i_rule_drafted a_trial_state_snow a_trial_state_path a_trial_state_debt a_trial_owedBy a_real_state_snow a_real_state_path a_real_state_debt a_weather_inches a_town_below a_rule_things a_rule_stack a_rule_code) := hD
          refine lv_aload_n hx hb dX11_needs_65 rfl (lv_at hl 0 rfl) ?_
          refine lv_iload_n hx hb dX11_needs_66 rfl (lv_at hl 1 rfl) ?_
          refine lv_iload_n hx hb dX11_needs_67 rfl (lv_at hl 2 rfl) ?_
          obtain ⟨o11, hg12, hf⟩ := bd_some hf
          refine k_VI2 (As := [.int p1, .int p2]) C K_RX11_391 (Nat.le_of_ble_eq_true rfl) (Nat.le_of_ble_eq_true rfl) (kX11_owesNothing l E q0 q0_text q0_town q0_weather q0_rule q0_acts q0_real q0_trial q0_round q0_nights q0_before q0_history q0_kept q0_keptHouses q0_shortest q0_tracks q0_tally q0_told q0_real_state q0_real_owedBy q0_trial_state q0_trial_owedBy q0_trial_state_snow q0_trial_state_path q0_trial_state_debt q0_real_state_snow q0_real_state_path q0_real_state_debt q0_weather_inches q0_town_hold q0_town_below q0_town_hay q0_rule_code q0_rule_draft q0_rule_stack q0_rule_things i_toldCount i_real_owed i_real_slides i_real_struck i_real_slid i_trial_owed i_trial_slides i_trial_struck i_trial_slid i_trial_state_now i_real_state_now a_trial_state_snow a_trial_state_path a_trial_state_debt a_trial_owedBy a_real_state_snow a_real_state_path a_real_state_debt i_weather_length i_weather_cycle i_town_houses i_rule_length i_rule_drafted a_weather_inches ((upd a_town_hold (p1 : Int32).toNatClampNeg v5)) a_town_below a_rule_things a_rule_stack a_rule_code p1 p2 o11 hg12) [0, 3, 4, 5, 6, 9, 10, 11, 12, 13, 14, 15, 7, 1, 8, 16, 2, 17, 18, 19, 20] rfl rfl rfl (ci := 11) rfl rfl (q0 := 0) rfl hP hD hS hA hl.1 (Nat.le_of_ble_eq_true rfl) rfl dX11_needs_68 (ws2 := (WX11_needs E q0 q0_text q0_town q0_weather q0_rule q0_acts q0_real q0_trial q0_round q0_nights q0_before q0_history q0_kept q0_keptHouses q0_shortest q0_tracks q0_tally q0_told q0_town_hold q0_town_below q0_town_hay q0_real_state q0_real_owedBy q0_trial_state q0_trial_owedBy q0_trial_state_snow q0_trial_state_path q0_trial_state_debt q0_real_state_snow q0_real_state_path q0_real_state_debt q0_weather_inches q0_rule_code q0_rule_draft q0_rule_stack q0_rule_things i_toldCount i_town_houses ((upd a_town_hold (p1 : Int32).toNatClampNeg v5)) i_real_owed i_real_slides i_real_struck i_real_slid o11.2.1 o11.2.2.1 o11.2.2.2.1 o11.2.2.2.2.1 o11.2.2.2.2.2.1 i_real_state_now i_weather_length i_weather_cycle i_rule_length i_rule_drafted o11.2.2.2.2.2.2.1 o11.2.2.2.2.2.2.2.1 o11.2.2.2.2.2.2.2.2.1 o11.2.2.2.2.2.2.2.2.2.1 a_real_state_snow a_real_state_path a_real_state_debt a_weather_inches a_town_below o11.2.2.2.2.2.2.2.2.2.2.1 o11.2.2.2.2.2.2.2.2.2.2.2 a_rule_code)) 21 [] rfl rfl rfl rfl (by decide +kernel) (fun H locs hP hD hS => ?_)
          refine lv_if_eq (tgt := 78) hx hb dX11_needs_71 (by decide) (fun c13 => ?_) (fun c13 => ?_)
          · rw [if_pos c13] at hf
            refine lv_iinc (v := (v5 + 1)) (lv' := [(5, .int ((v5 + 1))), (0, .ref q0), (1, .int p1), (2, .int p2), (3, .int v3), (4, .int v4)]) hx hb dX11_needs_78 hl (k := 5) rfl rfl (by decide) rfl (fun ls hl => ?_)
            refine lv_goto (tgt := 40) hx hb dX11_needs_81 (by decide) ?_
            exact ih v4 ((v5 + 1)) ((upd a_town_hold (p1 : Int32).toNatClampNeg v5)) o11.2.1 o11.2.2.1 o11.2.2.2.1 o11.2.2.2.2.1 o11.2.2.2.2.2.1 o11.2.2.2.2.2.2.1 o11.2.2.2.2.2.2.2.1 o11.2.2.2.2.2.2.2.2.1 o11.2.2.2.2.2.2.2.2.2.1 o11.2.2.2.2.2.2.2.2.2.2.1 o11.2.2.2.2.2.2.2.2.2.2.2 _ hf hE _ _ _ (lv_sub hl [1, 2, 3, 4, 5, 0] rfl) hP hD hS
          · rw [if_neg c13] at hf
            refine lv_iload hx hb dX11_needs_74 (lv_at hl 5 rfl) ?_
            refine lv_istore (lv' := [(4, .int v5), (0, .ref q0), (1, .int p1), (2, .int p2), (3, .int v3), (5, .int v5)]) hx hb dX11_needs_76 hl (by decide) rfl (fun ls hl => ?_)
            refine lv_iinc (v := (v5 + 1)) (lv' := [(5, .int ((v5 + 1))), (4, .int v5), (0, .ref q0), (1, .int p1), (2, .int p2), (3, .int v3)]) hx hb dX11_needs_78 hl (k := 5) rfl rfl (by decide) rfl (fun ls hl => ?_)
            refine lv_goto (tgt := 40) hx hb dX11_needs_81 (by decide) ?_
            exact ih v5 ((v5 + 1)) ((upd a_town_hold (p1 : Int32).toNatClampNeg v5)) o11.2.1 o11.2.2.1 o11.2.2.2.1 o11.2.2.2.2.1 o11.2.2.2.2.2.1 o11.2.2.2.2.2.2.1 o11.2.2.2.2.2.2.2.1 o11.2.2.2.2.2.2.2.2.1 o11.2.2.2.2.2.2.2.2.2.1 o11.2.2.2.2.2.2.2.2.2.2.1 o11.2.2.2.2.2.2.2.2.2.2.2 _ hf hE _ _ _ (lv_sub hl [2, 3, 4, 5, 1, 0] rfl) hP hD hS
  intro H locs ls hl hP hD hS
  have hl : lv_has ls 6 [(0, .ref q0), (1, .int p1), (2, .int p2)] := hl
  unfold fX11_needs at hf
  refine lv_aload_n hx hb dX11_needs_0 rfl (lv_at hl 0 rfl) ?_
  refine gf_RX11_19 C hP 0 rfl rfl dX11_needs_1 ?_
  refine lv_iload_n hx hb dX11_needs_4 rfl (lv_at hl 1 rfl) ?_
  obtain ⟨o1, hg2, hf⟩ := bd_some hf
  refine k_VI2 (As := [.int p1]) C K_RX11_139 (Nat.le_of_ble_eq_true rfl) (Nat.le_of_ble_eq_true rfl) (kX7_has l E q0_town q0_town_hold q0_town_below q0_town_hay i_town_houses p1 o1 hg2) [1] rfl rfl rfl (ci := 7) rfl rfl (q0 := 0) rfl hP hD hS hA hl.1 (Nat.le_of_ble_eq_true rfl) rfl dX11_needs_5 (ws2 := (WX11_needs E q0 q0_text q0_town q0_weather q0_rule q0_acts q0_real q0_trial q0_round q0_nights q0_before q0_history q0_kept q0_keptHouses q0_shortest q0_tracks q0_tally q0_told q0_town_hold q0_town_below q0_town_hay q0_real_state q0_real_owedBy q0_trial_state q0_trial_owedBy q0_trial_state_snow q0_trial_state_path q0_trial_state_debt q0_real_state_snow q0_real_state_path q0_real_state_debt q0_weather_inches q0_rule_code q0_rule_draft q0_rule_stack q0_rule_things i_toldCount i_town_houses a_town_hold i_real_owed i_real_slides i_real_struck i_real_slid i_trial_owed i_trial_slides i_trial_struck i_trial_slid i_trial_state_now i_real_state_now i_weather_length i_weather_cycle i_rule_length i_rule_drafted a_trial_state_snow a_trial_state_path a_trial_state_debt a_trial_owedBy a_real_state_snow a_real_state_path a_real_state_debt a_weather_inches a_town_below a_rule_things a_rule_stack a_rule_code)) 21 [0, 2, 3, 4, 5, 6, 7, 8, 9, 10, 11, 12, 13, 14, 15, 16, 17, 18, 19, 20] rfl rfl rfl rfl (by decide +kernel) (fun H locs hP hD hS => ?_)
  refine lv_if_eq (tgt := 21) hx hb dX11_needs_8 (by decide) (fun c3 => ?_) (fun c3 => ?_)
  · rw [if_pos c3] at hf
    refine lv_iconst (v := (-1)) hx hb dX11_needs_21 (by decide) ?_
    have hj0 := Option.some.inj hf
    subst hj0
    exact hret _ _ _ _ dX11_needs_22 rfl hP hD hS
  · rw [if_neg c3] at hf
    refine lv_iload_n hx hb dX11_needs_11 rfl (lv_at hl 2 rfl) ?_
    refine lv_iconst (v := 0) hx hb dX11_needs_12 (by decide) ?_
    refine lv_bipush (v := 60) hx hb dX11_needs_13 (by decide) ?_
    obtain ⟨o4, hg5, hf⟩ := bd_some hf
    refine k_SI2 (As := [.int p2, .int 0, .int 60]) C K_RX11_128 (Nat.le_of_ble_eq_true rfl) (Nat.le_of_ble_eq_true rfl) (kX11_isWithin l E p2 0 60 o4 hg5) [] rfl rfl rfl  hP hD hS hA hl.1 (Nat.le_of_ble_eq_true rfl) rfl dX11_needs_15 (ws2 := (WX11_needs E q0 q0_text q0_town q0_weather q0_rule q0_acts q0_real q0_trial q0_round q0_nights q0_before q0_history q0_kept q0_keptHouses q0_shortest q0_tracks q0_tally q0_told q0_town_hold q0_town_below q0_town_hay q0_real_state q0_real_owedBy q0_trial_state q0_trial_owedBy q0_trial_state_snow q0_trial_state_path q0_trial_state_debt q0_real_state_snow q0_real_state_path q0_real_state_debt q0_weather_inches q0_rule_code q0_rule_draft q0_rule_stack q0_rule_things i_toldCount i_town_houses a_town_hold i_real_owed i_real_slides i_real_struck i_real_slid i_trial_owed i_trial_slides i_trial_struck i_trial_slid i_trial_state_now i_real_state_now i_weather_length i_weather_cycle i_rule_length i_rule_drafted a_trial_state_snow a_trial_state_path a_trial_state_debt a_trial_owedBy a_real_state_snow a_real_state_path a_real_state_debt a_weather_inches a_town_below a_rule_things a_rule_stack a_rule_code)) 21 [0, 1, 2, 3, 4, 5, 6, 7, 8, 9, 10, 11, 12, 13, 14, 15, 16, 17, 18, 19, 20] rfl rfl rfl rfl (by decide +kernel) (fun H locs hP hD hS => ?_)
    refine lv_if_ne (tgt := 23) hx hb dX11_needs_18 (by decide) (fun c6 => ?_) (fun c6 => ?_)
    · rw [if_neg c6] at hf
      refine lv_aload_n hx hb dX11_needs_23 rfl (lv_at hl 0 rfl) ?_
      refine gf_RX11_19 C hP 0 rfl rfl dX11_needs_24 ?_
      refine gf_RX11_145 C hP 1 rfl rfl dX11_needs_27 ?_
      refine lv_iload_n hx hb dX11_needs_30 rfl (lv_at hl 1 rfl) ?_
      obtain ⟨g7, hf⟩ := gd_some hf
      refine va_iald hx hb C.2.2.2.2.2.1 hP 2 0 rfl rfl (vin_in g7) dX11_needs_31 ?_
      refine lv_istore_n (lv' := [(3, .int ((a_town_hold (p1 : Int32).toNatClampNeg))), (0, .ref q0), (1, .int p1), (2, .int p2)]) hx hb dX11_needs_32 rfl hl (by decide) rfl (fun ls hl => ?_)
      refine lv_bipush (v := (-2)) hx hb dX11_needs_33 (by decide) ?_
      refine lv_istore (lv' := [(4, .int ((-2))), (3, .int ((a_town_hold (p1 : Int32).toNatClampNeg))), (0, .ref q0), (1, .int p1), (2, .int p2)]) hx hb dX11_needs_35 hl (by decide) rfl (fun ls hl => ?_)
      refine lv_iconst (v := 1) hx hb dX11_needs_37 (by decide) ?_
      refine lv_istore (lv' := [(5, .int 1), (4, .int ((-2))), (3, .int ((a_town_hold (p1 : Int32).toNatClampNeg))), (0, .ref q0), (1, .int p1), (2, .int p2)]) hx hb dX11_needs_38 hl (by decide) rfl (fun ls hl => ?_)
      obtain ⟨o14, hg15, hf⟩ := bd_some hf
      refine L40 ((a_town_hold (p1 : Int32).toNatClampNeg)) FU ((-2)) 1 a_town_hold i_trial_owed i_trial_slides i_trial_struck i_trial_slid i_trial_state_now a_trial_state_snow a_trial_state_path a_trial_state_debt a_trial_owedBy a_rule_things a_rule_stack o14 hg15 ?_ _ _ _ (lv_sub hl [3, 4, 5, 2, 1, 0] rfl) hP hD hS
      intro H locs ls hl hP hD hS
      refine lv_aload_n hx hb dX11_needs_84 rfl (lv_at hl 0 rfl) ?_
      refine gf_RX11_19 C hP 0 rfl rfl dX11_needs_85 ?_
      refine gf_RX11_145 C hP 1 rfl rfl dX11_needs_88 ?_
      refine lv_iload_n hx hb dX11_needs_91 rfl (lv_at hl 1 rfl) ?_
      refine lv_iload_n hx hb dX11_needs_92 rfl (lv_at hl 2 rfl) ?_
      obtain ⟨g16, hf⟩ := gd_some hf
      refine va_iast hx hb C.2.2.2.2.2.1 hP hD hS 2 0 rfl rfl (vin_in g16) dX11_needs_93 (fun H locs hP hD hS => ?_)
      have hP : va_P E.1 classes (WX11_needs E q0 q0_text q0_town q0_weather q0_rule q0_acts q0_real q0_trial q0_round q0_nights q0_before q0_history q0_kept q0_keptHouses q0_shortest q0_tracks q0_tally q0_told q0_town_hold q0_town_below q0_town_hay q0_real_state q0_real_owedBy q0_trial_state q0_trial_owedBy q0_trial_state_snow q0_trial_state_path q0_trial_state_debt q0_real_state_snow q0_real_state_path q0_real_state_debt q0_weather_inches q0_rule_code q0_rule_draft q0_rule_stack q0_rule_things i_toldCount i_town_houses ((upd o14.2.1 (p1 : Int32).toNatClampNeg ((a_town_hold (p1 : Int32).toNatClampNeg)))) i_real_owed i_real_slides i_real_struck i_real_slid o14.2.2.1 o14.2.2.2.1 o14.2.2.2.2.1 o14.2.2.2.2.2.1 o14.2.2.2.2.2.2.1 i_real_state_now i_weather_length i_weather_cycle i_rule_length i_rule_drafted o14.2.2.2.2.2.2.2.1 o14.2.2.2.2.2.2.2.2.1 o14.2.2.2.2.2.2.2.2.2.1 o14.2.2.2.2.2.2.2.2.2.2.1 a_real_state_snow a_real_state_path a_real_state_debt a_weather_inches a_town_below o14.2.2.2.2.2.2.2.2.2.2.2.1 o14.2.2.2.2.2.2.2.2.2.2.2.2 a_rule_code) H := hP
      have hD : va_D A (WX11_needs E q0 q0_text q0_town q0_weather q0_rule q0_acts q0_real q0_trial q0_round q0_nights q0_before q0_history q0_kept q0_keptHouses q0_shortest q0_tracks q0_tally q0_told q0_town_hold q0_town_below q0_town_hay q0_real_state q0_real_owedBy q0_trial_state q0_trial_owedBy q0_trial_state_snow q0_trial_state_path q0_trial_state_debt q0_real_state_snow q0_real_state_path q0_real_state_debt q0_weather_inches q0_rule_code q0_rule_draft q0_rule_stack q0_rule_things i_toldCount i_town_houses ((upd o14.2.1 (p1 : Int32).toNatClampNeg ((a_town_hold (p1 : Int32).toNatClampNeg)))) i_real_owed i_real_slides i_real_struck i_real_slid o14.2.2.1 o14.2.2.2.1 o14.2.2.2.2.1 o14.2.2.2.2.2.1 o14.2.2.2.2.2.2.1 i_real_state_now i_weather_length i_weather_cycle i_rule_length i_rule_drafted o14.2.2.2.2.2.2.2.1 o14.2.2.2.2.2.2.2.2.1 o14.2.2.2.2.2.2.2.2.2.1 o14.2.2.2.2.2.2.2.2.2.2.1 a_real_state_snow a_real_state_path a_real_state_debt a_weather_inches a_town_below o14.2.2.2.2.2.2.2.2.2.2.2.1 o14.2.2.2.2.2.2.2.2.2.2.2.2 a_rule_code) := hD
      refine lv_iload hx hb dX11_needs_94 (lv_at hl 3 rfl) ?_
      have hj0 := Option.some.inj hf
      subst hj0
      exact hret _ _ _ _ dX11_needs_96 rfl hP hD hS
    · rw [if_pos c6] at hf
      refine lv_iconst (v := (-1)) hx hb dX11_needs_21 (by decide) ?_
      have hj0 := Option.some.inj hf
      subst hj0
      exact hret _ _ _ _ dX11_needs_22 rfl hP hD hS
theorem dX11_premium_0 : decode cX11_premium 0 = .ok (.aload_n 0, 1) := by decide +kernel
theorem dX11_premium_1 : decode cX11_premium 1 = .ok (.getfield 19, 3) := by decide +kernel
theorem dX11_premium_4 : decode cX11_premium 4 = .ok (.getfield 179, 3) := by decide +kernel
theorem dX11_premium_7 : decode cX11_premium 7 = .ok (.istore_n 2, 1) := by decide +kernel
theorem dX11_premium_8 : decode cX11_premium 8 = .ok (.iload_n 2, 1) := by decide +kernel
theorem dX11_premium_9 : decode cX11_premium 9 = .ok (.ifCond .eq 13, 3) := by decide +kernel
theorem dX11_premium_12 : decode cX11_premium 12 = .ok (.iload_n 1, 1) := by decide +kernel
theorem dX11_premium_13 : decode cX11_premium 13 = .ok (.iconst 0, 1) := by decide +kernel
theorem dX11_premium_14 : decode cX11_premium 14 = .ok (.bipush 60, 2) := by decide +kernel
theorem dX11_premium_16 : decode cX11_premium 16 = .ok (.invokestatic 128, 3) := by decide +kernel
theorem dX11_premium_19 : decode cX11_premium 19 = .ok (.ifCond .ne 11, 3) := by decide +kernel
theorem dX11_premium_22 : decode cX11_premium 22 = .ok (.new 142, 3) := by decide +kernel
theorem dX11_premium_25 : decode cX11_premium 25 = .ok (.dup, 1) := by decide +kernel
theorem dX11_premium_26 : decode cX11_premium 26 = .ok (.invokespecial 144, 3) := by decide +kernel
theorem dX11_premium_29 : decode cX11_premium 29 = .ok (.athrow, 1) := by decide +kernel
theorem dX11_premium_30 : decode cX11_premium 30 = .ok (.aload_n 0, 1) := by decide +kernel
theorem dX11_premium_31 : decode cX11_premium 31 = .ok (.getfield 53, 3) := by decide +kernel
theorem dX11_premium_34 : decode cX11_premium 34 = .ok (.aload_n 0, 1) := by decide +kernel
theorem dX11_premium_35 : decode cX11_premium 35 = .ok (.getfield 49, 3) := by decide +kernel
theorem dX11_premium_38 : decode cX11_premium 38 = .ok (.getfield 148, 3) := by decide +kernel
theorem dX11_premium_41 : decode cX11_premium 41 = .ok (.iload_n 1, 1) := by decide +kernel
theorem dX11_premium_42 : decode cX11_premium 42 = .ok (.invokevirtual 331, 3) := by decide +kernel
theorem dX11_premium_45 : decode cX11_premium 45 = .ok (.iconst 0, 1) := by decide +kernel
theorem dX11_premium_46 : decode cX11_premium 46 = .ok (.istore_n 3, 1) := by decide +kernel
theorem dX11_premium_47 : decode cX11_premium 47 = .ok (.aload_n 0, 1) := by decide +kernel
theorem dX11_premium_48 : decode cX11_premium 48 = .ok (.iconst 0, 1) := by decide +kernel
theorem dX11_premium_49 : decode cX11_premium 49 = .ok (.putfield 288, 3) := by decide +kernel
theorem dX11_premium_52 : decode cX11_premium 52 = .ok (.iconst 0, 1) := by decide +kernel
theorem dX11_premium_53 : decode cX11_premium 53 = .ok (.istore 4, 2) := by decide +kernel
theorem dX11_premium_55 : decode cX11_premium 55 = .ok (.iload 4, 2) := by decide +kernel
theorem dX11_premium_57 : decode cX11_premium 57 = .ok (.iload_n 2, 1) := by decide +kernel
theorem dX11_premium_58 : decode cX11_premium 58 = .ok (.if_icmp .ge 57, 3) := by decide +kernel
theorem dX11_premium_61 : decode cX11_premium 61 = .ok (.iload_n 3, 1) := by decide +kernel
theorem dX11_premium_62 : decode cX11_premium 62 = .ok (.aload_n 0, 1) := by decide +kernel
theorem dX11_premium_63 : decode cX11_premium 63 = .ok (.getfield 53, 3) := by decide +kernel
theorem dX11_premium_66 : decode cX11_premium 66 = .ok (.getfield 335, 3) := by decide +kernel
theorem dX11_premium_69 : decode cX11_premium 69 = .ok (.iload 4, 2) := by decide +kernel
theorem dX11_premium_71 : decode cX11_premium 71 = .ok (.iaload, 1) := by decide +kernel
theorem dX11_premium_72 : decode cX11_premium 72 = .ok (.invokestatic 191, 3) := by decide +kernel
theorem dX11_premium_75 : decode cX11_premium 75 = .ok (.istore_n 3, 1) := by decide +kernel
theorem dX11_premium_76 : decode cX11_premium 76 = .ok (.aload_n 0, 1) := by decide +kernel
theorem dX11_premium_77 : decode cX11_premium 77 = .ok (.aload_n 0, 1) := by decide +kernel
theorem dX11_premium_78 : decode cX11_premium 78 = .ok (.getfield 53, 3) := by decide +kernel
theorem dX11_premium_81 : decode cX11_premium 81 = .ok (.getfield 215, 3) := by decide +kernel
theorem dX11_premium_84 : decode cX11_premium 84 = .ok (.iload_n 2, 1) := by decide +kernel
theorem dX11_premium_85 : decode cX11_premium 85 = .ok (.idiv, 1) := by decide +kernel
theorem dX11_premium_86 : decode cX11_premium 86 = .ok (.iload 4, 2) := by decide +kernel
theorem dX11_premium_88 : decode cX11_premium 88 = .ok (.aload_n 0, 1) := by decide +kernel
theorem dX11_premium_89 : decode cX11_premium 89 = .ok (.getfield 53, 3) := by decide +kernel
theorem dX11_premium_92 : decode cX11_premium 92 = .ok (.getfield 215, 3) := by decide +kernel
theorem dX11_premium_95 : decode cX11_premium 95 = .ok (.iload_n 2, 1) := by decide +kernel
theorem dX11_premium_96 : decode cX11_premium 96 = .ok (.irem, 1) := by decide +kernel
theorem dX11_premium_97 : decode cX11_premium 97 = .ok (.if_icmp .ge 7, 3) := by decide +kernel
theorem dX11_premium_100 : decode cX11_premium 100 = .ok (.iconst 1, 1) := by decide +kernel
theorem dX11_premium_101 : decode cX11_premium 101 = .ok (.goto 4, 3) := by decide +kernel
theorem dX11_premium_104 : decode cX11_premium 104 = .ok (.iconst 0, 1) := by decide +kernel
theorem dX11_premium_105 : decode cX11_premium 105 = .ok (.iadd, 1) := by decide +kernel
theorem dX11_premium_106 : decode cX11_premium 106 = .ok (.invokevirtual 295, 3) := by decide +kernel
theorem dX11_premium_109 : decode cX11_premium 109 = .ok (.iinc 4 1, 3) := by decide +kernel
theorem dX11_premium_112 : decode cX11_premium 112 = .ok (.goto (-57), 3) := by decide +kernel
theorem dX11_premium_115 : decode cX11_premium 115 = .ok (.iload_n 3, 1) := by decide +kernel
theorem dX11_premium_116 : decode cX11_premium 116 = .ok (.aload_n 0, 1) := by decide +kernel
theorem dX11_premium_117 : decode cX11_premium 117 = .ok (.getfield 105, 3) := by decide +kernel
theorem dX11_premium_120 : decode cX11_premium 120 = .ok (.iconst 0, 1) := by decide +kernel
theorem dX11_premium_121 : decode cX11_premium 121 = .ok (.iaload, 1) := by decide +kernel
theorem dX11_premium_122 : decode cX11_premium 122 = .ok (.isub, 1) := by decide +kernel
theorem dX11_premium_123 : decode cX11_premium 123 = .ok (.ireturn, 1) := by decide +kernel
def WX11_premium (E : ENV) (q0 : Nat) (q0_text : Nat) (q0_town : Nat) (q0_weather : Nat) (q0_rule : Nat) (q0_acts : Nat) (q0_real : Nat) (q0_trial : Nat) (q0_round : Nat) (q0_nights : Nat) (q0_before : Nat) (q0_history : Nat) (q0_kept : Nat) (q0_keptHouses : Nat) (q0_shortest : Nat) (q0_tracks : Nat) (q0_tally : Nat) (q0_told : Nat) (q0_town_hold : Nat) (q0_town_below : Nat) (q0_town_hay : Nat) (q0_real_state : Nat) (q0_real_owedBy : Nat) (q0_trial_state : Nat) (q0_trial_owedBy : Nat) (q0_trial_state_snow : Nat) (q0_trial_state_path : Nat) (q0_trial_state_debt : Nat) (q0_weather_inches : Nat) (q0_rule_code : Nat) (q0_rule_draft : Nat) (q0_rule_stack : Nat) (q0_rule_things : Nat) (q0_real_state_snow : Nat) (q0_real_state_path : Nat) (q0_real_state_debt : Nat) (i_toldCount : Int32) (i_town_houses : Int32) (i_real_owed : Int32) (i_real_slides : Int32) (i_real_struck : Int32) (i_real_slid : Int32) (i_trial_owed : Int32) (i_trial_slides : Int32) (i_trial_struck : Int32) (i_trial_slid : Int32) (i_trial_state_now : Int32) (i_weather_length : Int32) (i_weather_cycle : Int32) (i_rule_length : Int32) (i_rule_drafted : Int32) (i_real_state_now : Int32) (a_trial_state_snow : Nat → Int32) (a_trial_state_path : Nat → Int32) (a_trial_state_debt : Nat → Int32) (a_trial_owedBy : Nat → Int32) (a_weather_inches : Nat → Int32) (a_town_hold : Nat → Int32) (a_town_below : Nat → Int32) (a_rule_things : Nat → Int32) (a_rule_stack : Nat → Int32) (a_rule_code : Nat → Int32) (a_real_state_snow : Nat → Int32) (a_real_state_path : Nat → Int32) (a_real_state_debt : Nat → Int32) (a_told : Nat → Int32) : va_W := [(q0, .inr (11, [.ref q0_text, .ref q0_town, .ref q0_weather, .ref q0_rule, .ref q0_acts, .ref q0_real, .ref q0_trial, .ref q0_round, .ref q0_nights, .ref q0_before, .ref q0_history, .ref q0_kept, .ref q0_keptHouses, .ref q0_shortest, .ref q0_tracks, .ref q0_tally, .ref q0_told, .int i_toldCount])), (q0_town, .inr (7, [.ref q0_town_hold, .ref q0_town_below, .ref q0_town_hay, .int i_town_houses])), (q0_real, .inr (9, [.ref q0_town, .ref q0_weather, .ref q0_rule, .ref q0_real_state, .ref q0_real_owedBy, .int i_real_owed, .int i_real_slides, .int i_real_struck, .int i_real_slid])), (q0_trial, .inr (9, [.ref q0_town, .ref q0_weather, .ref q0_rule, .ref q0_trial_state, .ref q0_trial_owedBy, .int i_trial_owed, .int i_trial_slides, .int i_trial_struck, .int i_trial_slid])), (q0_trial_state, .inr (5, [.ref q0_trial_state_snow, .ref q0_trial_state_path, .ref q0_trial_state_debt, .int i_trial_state_now])), (q0_weather, .inr (10, [.ref q0_weather_inches, .int i_weather_length, .int i_weather_cycle])), (q0_rule, .inr (4, [.ref q0_rule_code, .ref q0_rule_draft, .ref q0_rule_stack, .ref q0_rule_things, .int i_rule_length, .int i_rule_drafted])), (q0_real_state, .inr (5, [.ref q0_real_state_snow, .ref q0_real_state_path, .ref q0_real_state_debt, .int i_real_state_now])), (q0_trial_state_snow, .inl (E.2.1, 14, .inl a_trial_state_snow)), (q0_trial_state_path, .inl (E.2.1, 7, .inl a_trial_state_path)), (q0_trial_state_debt, .inl (E.2.1, 49, .inl a_trial_state_debt)), (q0_trial_owedBy, .inl (E.2.1, 7, .inl a_trial_owedBy)), (q0_weather_inches, .inl (E.2.1, 40, .inl a_weather_inches)), (q0_town_hold, .inl (E.2.1, 7, .inl a_town_hold)), (q0_town_below, .inl (E.2.1, 14, .inl a_town_below)), (q0_rule_things, .inl (E.2.1, 8, .inl a_rule_things)), (q0_rule_stack, .inl (E.2.1, 40, .inl a_rule_stack)), (q0_rule_code, .inl (E.2.1, 40, .inl a_rule_code)), (q0_real_state_snow, .inl (E.2.1, 14, .inl a_real_state_snow)), (q0_real_state_path, .inl (E.2.1, 7, .inl a_real_state_path)), (q0_real_state_debt, .inl (E.2.1, 49, .inl a_real_state_debt)), (q0_told, .inl (E.2.1, 8, .inl a_told))]
set_option maxHeartbeats 4000000 in
set_option maxRecDepth 20000 in
theorem kX11_premium (l : Launch) (E : ENV) (q0 : Nat) (q0_text : Nat) (q0_town : Nat) (q0_weather : Nat) (q0_rule : Nat) (q0_acts : Nat) (q0_real : Nat) (q0_trial : Nat) (q0_round : Nat) (q0_nights : Nat) (q0_before : Nat) (q0_history : Nat) (q0_kept : Nat) (q0_keptHouses : Nat) (q0_shortest : Nat) (q0_tracks : Nat) (q0_tally : Nat) (q0_told : Nat) (q0_town_hold : Nat) (q0_town_below : Nat) (q0_town_hay : Nat) (q0_real_state : Nat) (q0_real_owedBy : Nat) (q0_trial_state : Nat) (q0_trial_owedBy : Nat) (q0_trial_state_snow : Nat) (q0_trial_state_path : Nat) (q0_trial_state_debt : Nat) (q0_weather_inches : Nat) (q0_rule_code : Nat) (q0_rule_draft : Nat) (q0_rule_stack : Nat) (q0_rule_things : Nat) (q0_real_state_snow : Nat) (q0_real_state_path : Nat) (q0_real_state_debt : Nat) (i_toldCount : Int32) (i_town_houses : Int32) (i_real_owed : Int32) (i_real_slides : Int32) (i_real_struck : Int32) (i_real_slid : Int32) (i_trial_owed : Int32) (i_trial_slides : Int32) (i_trial_struck : Int32) (i_trial_slid : Int32) (i_trial_state_now : Int32) (i_weather_length : Int32) (i_weather_cycle : Int32) (i_rule_length : Int32) (i_rule_drafted : Int32) (i_real_state_now : Int32) (a_trial_state_snow : Nat → Int32) (a_trial_state_path : Nat → Int32) (a_trial_state_debt : Nat → Int32) (a_trial_owedBy : Nat → Int32) (a_weather_inches : Nat → Int32) (a_town_hold : Nat → Int32) (a_town_below : Nat → Int32) (a_rule_things : Nat → Int32) (a_rule_stack : Nat → Int32) (a_rule_code : Nat → Int32) (a_real_state_snow : Nat → Int32) (a_real_state_path : Nat → Int32) (a_real_state_debt : Nat → Int32) (a_told : Nat → Int32) (p1 : Int32) (o9 : Int32 × Int32 × Int32 × Int32 × Int32 × Int32 × Int32 × (Nat → Int32) × (Nat → Int32) × (Nat → Int32) × (Nat → Int32) × (Nat → Int32) × (Nat → Int32) × (Nat → Int32)) (hf : fX11_premium i_toldCount i_town_houses i_trial_owed i_trial_slides i_trial_struck i_trial_slid i_trial_state_now i_weather_cycle i_rule_length i_real_state_now a_trial_state_snow a_trial_state_path a_trial_state_debt a_trial_owedBy a_weather_inches a_town_hold a_town_below a_rule_things a_rule_stack a_rule_code a_real_state_snow a_real_state_path a_real_state_debt a_told p1 = some o9) : CI l E yX11_premium cX11_premium 5 (some .int) 5 [.ref q0, .int p1] (WX11_premium E q0 q0_text q0_town q0_weather q0_rule q0_acts q0_real q0_trial q0_round q0_nights q0_before q0_history q0_kept q0_keptHouses q0_shortest q0_tracks q0_tally q0_told q0_town_hold q0_town_below q0_town_hay q0_real_state q0_real_owedBy q0_trial_state q0_trial_owedBy q0_trial_state_snow q0_trial_state_path q0_trial_state_debt q0_weather_inches q0_rule_code q0_rule_draft q0_rule_stack q0_rule_things q0_real_state_snow q0_real_state_path q0_real_state_debt i_toldCount i_town_houses i_real_owed i_real_slides i_real_struck i_real_slid i_trial_owed i_trial_slides i_trial_struck i_trial_slid i_trial_state_now i_weather_length i_weather_cycle i_rule_length i_rule_drafted i_real_state_now a_trial_state_snow a_trial_state_path a_trial_state_debt a_trial_owedBy a_weather_inches a_town_hold a_town_below a_rule_things a_rule_stack a_rule_code a_real_state_snow a_real_state_path a_real_state_debt a_told) (WX11_premium E q0 q0_text q0_town q0_weather q0_rule q0_acts q0_real q0_trial q0_round q0_nights q0_before q0_history q0_kept q0_keptHouses q0_shortest q0_tracks q0_tally q0_told q0_town_hold q0_town_below q0_town_hay q0_real_state q0_real_owedBy q0_trial_state q0_trial_owedBy q0_trial_state_snow q0_trial_state_path q0_trial_state_debt q0_weather_inches q0_rule_code q0_rule_draft q0_rule_stack q0_rule_things q0_real_state_snow q0_real_state_path q0_real_state_debt o9.2.1 i_town_houses i_real_owed i_real_slides i_real_struck i_real_slid o9.2.2.1 o9.2.2.2.1 o9.2.2.2.2.1 o9.2.2.2.2.2.1 o9.2.2.2.2.2.2.1 i_weather_length i_weather_cycle i_rule_length i_rule_drafted i_real_state_now o9.2.2.2.2.2.2.2.1 o9.2.2.2.2.2.2.2.2.1 o9.2.2.2.2.2.2.2.2.2.1 o9.2.2.2.2.2.2.2.2.2.2.1 a_weather_inches a_town_hold a_town_below o9.2.2.2.2.2.2.2.2.2.2.2.1 o9.2.2.2.2.2.2.2.2.2.2.2.2.1 a_rule_code a_real_state_snow a_real_state_path a_real_state_debt o9.2.2.2.2.2.2.2.2.2.2.2.2.2) o9.1 := by
  refine begI (by decide +kernel) (Nat.le_of_ble_eq_true rfl) ?_
  intro p e s m args below meth c A Q C hA hret
  have hx := C.1
  have hb := C.2.1
  have L55 : ∀ (v2 : Int32) (i_trial_owed : Int32) (i_trial_slides : Int32) (i_trial_struck : Int32) (i_trial_slid : Int32) (i_trial_state_now : Int32) (a_trial_state_snow : Nat → Int32) (a_trial_state_path : Nat → Int32) (a_trial_state_debt : Nat → Int32) (a_trial_owedBy : Nat → Int32) (a_rule_things : Nat → Int32) (a_rule_stack : Nat → Int32), ∀ (n : Nat) (v3 : Int32) (v4 : Int32) (i_toldCount : Int32) (a_told : Nat → Int32) (o : Int32 × Int32 × (Nat → Int32)), fX11_premium_L55 v2 i_trial_owed a_trial_owedBy n v3 v4 i_toldCount a_told = some o → (GO p l e 5 s m args below meth c Q E A 5 115 [] [(0, .ref q0), (3, .int o.1)] (WX11_premium E q0 q0_text q0_town q0_weather q0_rule q0_acts q0_real q0_trial q0_round q0_nights q0_before q0_history q0_kept q0_keptHouses q0_shortest q0_tracks q0_tally q0_told q0_town_hold q0_town_below q0_town_hay q0_real_state q0_real_owedBy q0_trial_state q0_trial_owedBy q0_trial_state_snow q0_trial_state_path q0_trial_state_debt q0_weather_inches q0_rule_code q0_rule_draft q0_rule_stack q0_rule_things q0_real_state_snow q0_real_state_path q0_real_state_debt o.2.1 i_town_houses i_real_owed i_real_slides i_real_struck i_real_slid i_trial_owed i_trial_slides i_trial_struck i_trial_slid i_trial_state_now i_weather_length i_weather_cycle i_rule_length i_rule_drafted i_real_state_now a_trial_state_snow a_trial_state_path a_trial_state_debt a_trial_owedBy a_weather_inches a_town_hold a_town_below a_rule_things a_rule_stack a_rule_code a_real_state_snow a_real_state_path a_real_state_debt o.2.2)) → GO p l e 5 s m args below meth c Q E A 5 55 [] [(0, .ref q0), (2, .int v2), (3, .int v3), (4, .int v4)] (WX11_premium E q0 q0_text q0_town q0_weather q0_rule q0_acts q0_real q0_trial q0_round q0_nights q0_before q0_history q0_kept q0_keptHouses q0_shortest q0_tracks q0_tally q0_told q0_town_hold q0_town_below q0_town_hay q0_real_state q0_real_owedBy q0_trial_state q0_trial_owedBy q0_trial_state_snow q0_trial_state_path q0_trial_state_debt q0_weather_inches q0_rule_code q0_rule_draft q0_rule_stack q0_rule_things q0_real_state_snow q0_real_state_path q0_real_state_debt i_toldCount i_town_houses i_real_owed i_real_slides i_real_struck i_real_slid i_trial_owed i_trial_slides i_trial_struck i_trial_slid i_trial_state_now i_weather_length i_weather_cycle i_rule_length i_rule_drafted i_real_state_now a_trial_state_snow a_trial_state_path a_trial_state_debt a_trial_owedBy a_weather_inches a_town_hold a_town_below a_rule_things a_rule_stack a_rule_code a_real_state_snow a_real_state_path a_real_state_debt a_told) := by
    intro v2 i_trial_owed i_trial_slides i_trial_struck i_trial_slid i_trial_state_now a_trial_state_snow a_trial_state_path a_trial_state_debt a_trial_owedBy a_rule_things a_rule_stack
    intro n
    induction n with
    | zero =>
      intro v3 v4 i_toldCount a_told o hf
      have hf : none = some o := hf
      cases hf
    | succ n ih =>
      intro v3 v4 i_toldCount a_told o hf hE
      intro H locs ls hl hP hD hS
      rw [fX11_premium_L55] at hf
      refine lv_iload hx hb dX11_premium_55 (lv_at hl 3 rfl) ?_
      refine lv_iload_n hx hb dX11_premium_57 rfl (lv_at hl 1 rfl) ?_
      refine lv_icmp_ge (tgt := 115) hx hb dX11_premium_58 (by decide) (fun c7 => ?_) (fun c7 => ?_)
      · rw [if_pos c7] at hf
        have hf := Option.some.inj hf
        subst hf
        exact hE _ _ _ (lv_sub hl [0, 2] rfl) hP hD hS
      · rw [if_neg c7] at hf
        refine lv_iload_n hx hb dX11_premium_61 rfl (lv_at hl 2 rfl) ?_
        refine lv_aload_n hx hb dX11_premium_62 rfl (lv_at hl 0 rfl) ?_
        refine gf_RX11_53 C hP 0 rfl rfl dX11_premium_63 ?_
        refine gf_RX11_335 C hP 3 rfl rfl dX11_premium_66 ?_
        refine lv_iload hx hb dX11_premium_69 (lv_at hl 3 rfl) ?_
        obtain ⟨g8, hf⟩ := gd_some hf
        refine va_iald hx hb C.2.2.2.2.2.1 hP 11 0 rfl rfl (vin_in g8) dX11_premium_71 ?_
        refine r_max C q732 (Nat.le_of_ble_eq_true rfl) hl.1 (Nat.le_of_ble_eq_true rfl) dX11_premium_72 ?_
        refine lv_istore_n (lv' := [(3, .int ((mx v3 ((a_trial_owedBy (v4 : Int32).toNatClampNeg))))), (0, .ref q0), (2, .int v2), (4, .int v4)]) hx hb dX11_premium_75 rfl hl (by decide) rfl (fun ls hl => ?_)
        refine lv_aload_n hx hb dX11_premium_76 rfl (lv_at hl 1 rfl) ?_
        refine lv_aload_n hx hb dX11_premium_77 rfl (lv_at hl 1 rfl) ?_
        refine gf_RX11_53 C hP 0 rfl rfl dX11_premium_78 ?_
        refine gf_RX11_215 C hP 3 rfl rfl dX11_premium_81 ?_
        refine lv_iload_n hx hb dX11_premium_84 rfl (lv_at hl 2 rfl) ?_
        obtain ⟨g9, hf⟩ := gd_some hf
        refine lv_idiv hx hb dX11_premium_85 (nz_ne g9) ?_
        refine lv_iload hx hb dX11_premium_86 (lv_at hl 3 rfl) ?_
        refine lv_aload_n hx hb dX11_premium_88 rfl (lv_at hl 1 rfl) ?_
        refine gf_RX11_53 C hP 0 rfl rfl dX11_premium_89 ?_
        refine gf_RX11_215 C hP 3 rfl rfl dX11_premium_92 ?_
        refine lv_iload_n hx hb dX11_premium_95 rfl (lv_at hl 2 rfl) ?_
        obtain ⟨g10, hf⟩ := gd_some hf
        refine r_irem hx hb dX11_premium_96 (nz_ne g10) ?_
        refine lv_icmp_ge (tgt := 104) hx hb dX11_premium_97 (by decide) (fun c11 => ?_) (fun c11 => ?_)
        · rw [if_pos c11] at hf
          refine lv_iconst (v := 0) hx hb dX11_premium_104 (by decide) ?_
          refine lv_iadd hx hb dX11_premium_105 ?_
          obtain ⟨o12, hg13, hf⟩ := bd_some hf
          refine k_VV2 (As := [.int ((((i_trial_owed / v2)) + 0))]) C K_RX11_295 (Nat.le_of_ble_eq_true rfl) (Nat.le_of_ble_eq_true rfl) (kX11_tellMore l E q0 q0_text q0_town q0_weather q0_rule q0_acts q0_real q0_trial q0_round q0_nights q0_before q0_history q0_kept q0_keptHouses q0_shortest q0_tracks q0_tally q0_told i_toldCount a_told ((((i_trial_owed / v2)) + 0)) o12 hg13) [0, 21] rfl rfl rfl (ci := 11) rfl rfl (q0 := 0) rfl hP hD hS hA hl.1 (Nat.le_of_ble_eq_true rfl) rfl dX11_premium_106 (ws2 := (WX11_premium E q0 q0_text q0_town q0_weather q0_rule q0_acts q0_real q0_trial q0_round q0_nights q0_before q0_history q0_kept q0_keptHouses q0_shortest q0_tracks q0_tally q0_told q0_town_hold q0_town_below q0_town_hay q0_real_state q0_real_owedBy q0_trial_state q0_trial_owedBy q0_trial_state_snow q0_trial_state_path q0_trial_state_debt q0_weather_inches q0_rule_code q0_rule_draft q0_rule_stack q0_rule_things q0_real_state_snow q0_real_state_path q0_real_state_debt o12.1 i_town_houses i_real_owed i_real_slides i_real_struck i_real_slid i_trial_owed i_trial_slides i_trial_struck i_trial_slid i_trial_state_now i_weather_length i_weather_cycle i_rule_length i_rule_drafted i_real_state_now a_trial_state_snow a_trial_state_path a_trial_state_debt a_trial_owedBy a_weather_inches a_town_hold a_town_below a_rule_things a_rule_stack a_rule_code a_real_state_snow a_real_state_path a_real_state_debt o12.2)) 22 [1, 2, 3, 4, 5, 6, 7, 8, 9, 10, 11, 12, 13, 14, 15, 16, 17, 18, 19, 20] rfl rfl rfl rfl (by decide +kernel) (fun H locs hP hD hS => ?_)
          refine lv_iinc (v := (v4 + 1)) (lv' := [(4, .int ((v4 + 1))), (3, .int ((mx v3 ((a_trial_owedBy (v4 : Int32).toNatClampNeg))))), (0, .ref q0), (2, .int v2)]) hx hb dX11_premium_109 hl (k := 3) rfl rfl (by decide) rfl (fun ls hl => ?_)
          refine lv_goto (tgt := 55) hx hb dX11_premium_112 (by decide) ?_
          exact ih ((mx v3 ((a_trial_owedBy (v4 : Int32).toNatClampNeg)))) ((v4 + 1)) o12.1 o12.2 _ hf hE _ _ _ (lv_sub hl [2, 3, 1, 0] rfl) hP hD hS
        · rw [if_neg c11] at hf
          refine lv_iconst (v := 1) hx hb dX11_premium_100 (by decide) ?_
          refine lv_goto (tgt := 105) hx hb dX11_premium_101 (by decide) ?_
          refine lv_iadd hx hb dX11_premium_105 ?_
          obtain ⟨o14, hg15, hf⟩ := bd_some hf
          refine k_VV2 (As := [.int ((((i_trial_owed / v2)) + 1))]) C K_RX11_295 (Nat.le_of_ble_eq_true rfl) (Nat.le_of_ble_eq_true rfl) (kX11_tellMore l E q0 q0_text q0_town q0_weather q0_rule q0_acts q0_real q0_trial q0_round q0_nights q0_before q0_history q0_kept q0_keptHouses q0_shortest q0_tracks q0_tally q0_told i_toldCount a_told ((((i_trial_owed / v2)) + 1)) o14 hg15) [0, 21] rfl rfl rfl (ci := 11) rfl rfl (q0 := 0) rfl hP hD hS hA hl.1 (Nat.le_of_ble_eq_true rfl) rfl dX11_premium_106 (ws2 := (WX11_premium E q0 q0_text q0_town q0_weather q0_rule q0_acts q0_real q0_trial q0_round q0_nights q0_before q0_history q0_kept q0_keptHouses q0_shortest q0_tracks q0_tally q0_told q0_town_hold q0_town_below q0_town_hay q0_real_state q0_real_owedBy q0_trial_state q0_trial_owedBy q0_trial_state_snow q0_trial_state_path q0_trial_state_debt q0_weather_inches q0_rule_code q0_rule_draft q0_rule_stack q0_rule_things q0_real_state_snow q0_real_state_path q0_real_state_debt o14.1 i_town_houses i_real_owed i_real_slides i_real_struck i_real_slid i_trial_owed i_trial_slides i_trial_struck i_trial_slid i_trial_state_now i_weather_length i_weather_cycle i_rule_length i_rule_drafted i_real_state_now a_trial_state_snow a_trial_state_path a_trial_state_debt a_trial_owedBy a_weather_inches a_town_hold a_town_below a_rule_things a_rule_stack a_rule_code a_real_state_snow a_real_state_path a_real_state_debt o14.2)) 22 [1, 2, 3, 4, 5, 6, 7, 8, 9, 10, 11, 12, 13, 14, 15, 16, 17, 18, 19, 20] rfl rfl rfl rfl (by decide +kernel) (fun H locs hP hD hS => ?_)
          refine lv_iinc (v := (v4 + 1)) (lv' := [(4, .int ((v4 + 1))), (3, .int ((mx v3 ((a_trial_owedBy (v4 : Int32).toNatClampNeg))))), (0, .ref q0), (2, .int v2)]) hx hb dX11_premium_109 hl (k := 3) rfl rfl (by decide) rfl (fun ls hl => ?_)
          refine lv_goto (tgt := 55) hx hb dX11_premium_112 (by decide) ?_
          exact ih ((mx v3 ((a_trial_owedBy (v4 : Int32).toNatClampNeg)))) ((v4 + 1)) o14.1 o14.2 _ hf hE _ _ _ (lv_sub hl [2, 3, 1, 0] rfl) hP hD hS
  intro H locs ls hl hP hD hS
  have hl : lv_has ls 5 [(0, .ref q0), (1, .int p1)] := hl
  unfold fX11_premium at hf
  refine lv_aload_n hx hb dX11_premium_0 rfl (lv_at hl 0 rfl) ?_
  refine gf_RX11_19 C hP 0 rfl rfl dX11_premium_1 ?_
  refine gf_RX11_179 C hP 1 rfl rfl dX11_premium_4 ?_
  refine lv_istore_n (lv' := [(2, .int i_town_houses), (0, .ref q0), (1, .int p1)]) hx hb dX11_premium_7 rfl hl (by decide) rfl (fun ls hl => ?_)
  refine lv_iload_n hx hb dX11_premium_8 rfl (lv_at hl 0 rfl) ?_
  refine lv_if_eq (tgt := 22) hx hb dX11_premium_9 (by decide) (fun c1 => ?_) (fun c1 => ?_)
  · rw [if_pos c1] at hf
    cases hf
  · rw [if_neg c1] at hf
    refine lv_iload_n hx hb dX11_premium_12 rfl (lv_at hl 2 rfl) ?_
    refine lv_iconst (v := 0) hx hb dX11_premium_13 (by decide) ?_
    refine lv_bipush (v := 60) hx hb dX11_premium_14 (by decide) ?_
    obtain ⟨o2, hg3, hf⟩ := bd_some hf
    refine k_SI2 (As := [.int p1, .int 0, .int 60]) C K_RX11_128 (Nat.le_of_ble_eq_true rfl) (Nat.le_of_ble_eq_true rfl) (kX11_isWithin l E p1 0 60 o2 hg3) [] rfl rfl rfl  hP hD hS hA hl.1 (Nat.le_of_ble_eq_true rfl) rfl dX11_premium_16 (ws2 := (WX11_premium E q0 q0_text q0_town q0_weather q0_rule q0_acts q0_real q0_trial q0_round q0_nights q0_before q0_history q0_kept q0_keptHouses q0_shortest q0_tracks q0_tally q0_told q0_town_hold q0_town_below q0_town_hay q0_real_state q0_real_owedBy q0_trial_state q0_trial_owedBy q0_trial_state_snow q0_trial_state_path q0_trial_state_debt q0_weather_inches q0_rule_code q0_rule_draft q0_rule_stack q0_rule_things q0_real_state_snow q0_real_state_path q0_real_state_debt i_toldCount i_town_houses i_real_owed i_real_slides i_real_struck i_real_slid i_trial_owed i_trial_slides i_trial_struck i_trial_slid i_trial_state_now i_weather_length i_weather_cycle i_rule_length i_rule_drafted i_real_state_now a_trial_state_snow a_trial_state_path a_trial_state_debt a_trial_owedBy a_weather_inches a_town_hold a_town_below a_rule_things a_rule_stack a_rule_code a_real_state_snow a_real_state_path a_real_state_debt a_told)) 22 [0, 1, 2, 3, 4, 5, 6, 7, 8, 9, 10, 11, 12, 13, 14, 15, 16, 17, 18, 19, 20, 21] rfl rfl rfl rfl (by decide +kernel) (fun H locs hP hD hS => ?_)
    refine lv_if_ne (tgt := 30) hx hb dX11_premium_19 (by decide) (fun c4 => ?_) (fun c4 => ?_)
    · rw [if_neg c4] at hf
      refine lv_aload_n hx hb dX11_premium_30 rfl (lv_at hl 1 rfl) ?_
      refine gf_RX11_53 C hP 0 rfl rfl dX11_premium_31 ?_
      refine lv_aload_n hx hb dX11_premium_34 rfl (lv_at hl 1 rfl) ?_
      refine gf_RX11_49 C hP 0 rfl rfl dX11_premium_35 ?_
      refine gf_RX11_148 C hP 2 rfl rfl dX11_premium_38 ?_
      refine lv_iload_n hx hb dX11_premium_41 rfl (lv_at hl 2 rfl) ?_
      obtain ⟨o5, hg6, hf⟩ := bd_some hf
      refine k_VV2 (As := [.ref q0_real_state, .int p1]) C K_RX11_331 (Nat.le_of_ble_eq_true rfl) (Nat.le_of_ble_eq_true rfl) (kX9_walkFrom l E q0_trial q0_town q0_weather q0_rule q0_trial_state q0_trial_owedBy q0_trial_state_snow q0_trial_state_path q0_trial_state_debt q0_weather_inches q0_town_hold q0_town_below q0_town_hay q0_rule_code q0_rule_draft q0_rule_stack q0_rule_things q0_real_state q0_real_state_snow q0_real_state_path q0_real_state_debt i_trial_owed i_trial_slides i_trial_struck i_trial_slid i_trial_state_now a_trial_state_snow a_trial_state_path a_trial_state_debt a_trial_owedBy i_weather_length i_weather_cycle i_town_houses i_rule_length i_rule_drafted a_weather_inches a_town_hold a_town_below a_rule_things a_rule_stack a_rule_code i_real_state_now a_real_state_snow a_real_state_path a_real_state_debt p1 o5.1 o5.2.1 o5.2.2.1 o5.2.2.2.1 o5.2.2.2.2.1 o5.2.2.2.2.2.1 o5.2.2.2.2.2.2.1 o5.2.2.2.2.2.2.2.1 o5.2.2.2.2.2.2.2.2.1 o5.2.2.2.2.2.2.2.2.2.1 o5.2.2.2.2.2.2.2.2.2.2 hg6) [3, 4, 8, 9, 10, 11, 5, 1, 6, 12, 13, 14, 15, 16, 17, 7, 18, 19, 20] rfl rfl rfl (ci := 9) rfl rfl (q0 := 0) rfl hP hD hS hA hl.1 (Nat.le_of_ble_eq_true rfl) rfl dX11_premium_42 (ws2 := (WX11_premium E q0 q0_text q0_town q0_weather q0_rule q0_acts q0_real q0_trial q0_round q0_nights q0_before q0_history q0_kept q0_keptHouses q0_shortest q0_tracks q0_tally q0_told q0_town_hold q0_town_below q0_town_hay q0_real_state q0_real_owedBy q0_trial_state q0_trial_owedBy q0_trial_state_snow q0_trial_state_path q0_trial_state_debt q0_weather_inches q0_rule_code q0_rule_draft q0_rule_stack q0_rule_things q0_real_state_snow q0_real_state_path q0_real_state_debt i_toldCount i_town_houses i_real_owed i_real_slides i_real_struck i_real_slid o5.1 o5.2.1 o5.2.2.1 o5.2.2.2.1 o5.2.2.2.2.1 i_weather_length i_weather_cycle i_rule_length i_rule_drafted i_real_state_now o5.2.2.2.2.2.1 o5.2.2.2.2.2.2.1 o5.2.2.2.2.2.2.2.1 o5.2.2.2.2.2.2.2.2.1 a_weather_inches a_town_hold a_town_below o5.2.2.2.2.2.2.2.2.2.1 o5.2.2.2.2.2.2.2.2.2.2 a_rule_code a_real_state_snow a_real_state_path a_real_state_debt a_told)) 22 [0, 2, 21] rfl rfl rfl rfl (by decide +kernel) (fun H locs hP hD hS => ?_)
      refine lv_iconst (v := 0) hx hb dX11_premium_45 (by decide) ?_
      refine lv_istore_n (lv' := [(3, .int 0), (2, .int i_town_houses), (0, .ref q0), (1, .int p1)]) hx hb dX11_premium_46 rfl hl (by decide) rfl (fun ls hl => ?_)
      refine lv_aload_n hx hb dX11_premium_47 rfl (lv_at hl 2 rfl) ?_
      refine lv_iconst (v := 0) hx hb dX11_premium_48 (by decide) ?_
      refine pf_RX11_288 C hP hD hS 0 rfl (Nat.le_of_ble_eq_true rfl) dX11_premium_49 (fun H locs hP hD hS => ?_)
      have hP : va_P E.1 classes (WX11_premium E q0 q0_text q0_town q0_weather q0_rule q0_acts q0_real q0_trial q0_round q0_nights q0_before q0_history q0_kept q0_keptHouses q0_shortest q0_tracks q0_tally q0_told q0_town_hold q0_town_below q0_town_hay q0_real_state q0_real_owedBy q0_trial_state q0_trial_owedBy q0_trial_state_snow q0_trial_state_path q0_trial_state_debt q0_weather_inches q0_rule_code q0_rule_draft q0_rule_stack q0_rule_things q0_real_state_snow q0_real_state_path q0_real_state_debt 0 i_town_houses i_real_owed i_real_slides i_real_struck i_real_slid o5.1 o5.2.1 o5.2.2.1 o5.2.2.2.1 o5.2.2.2.2.1 i_weather_length i_weather_cycle i_rule_length i_rule_drafted i_real_state_now o5.2.2.2.2.2.1 o5.2.2.2.2.2.2.1 o5.2.2.2.2.2.2.2.1 o5.2.2.2.2.2.2.2.2.1 a_weather_inches a_town_hold a_town_below o5.2.2.2.2.2.2.2.2.2.1 o5.2.2.2.2.2.2.2.2.2.2 a_rule_code a_real_state_snow a_real_state_path a_real_state_debt a_told) H := hP
      have hD : va_D A (WX11_premium E q0 q0_text q0_town q0_weather q0_rule q0_acts q0_real q0_trial q0_round q0_nights q0_before q0_history q0_kept q0_keptHouses q0_shortest q0_tracks q0_tally q0_told q0_town_hold q0_town_below q0_town_hay q0_real_state q0_real_owedBy q0_trial_state q0_trial_owedBy q0_trial_state_snow q0_trial_state_path q0_trial_state_debt q0_weather_inches q0_rule_code q0_rule_draft q0_rule_stack q0_rule_things q0_real_state_snow q0_real_state_path q0_real_state_debt 0 i_town_houses i_real_owed i_real_slides i_real_struck i_real_slid o5.1 o5.2.1 o5.2.2.1 o5.2.2.2.1 o5.2.2.2.2.1 i_weather_length i_weather_cycle i_rule_length i_rule_drafted i_real_state_now o5.2.2.2.2.2.1 o5.2.2.2.2.2.2.1 o5.2.2.2.2.2.2.2.1 o5.2.2.2.2.2.2.2.2.1 a_weather_inches a_town_hold a_town_below o5.2.2.2.2.2.2.2.2.2.1 o5.2.2.2.2.2.2.2.2.2.2 a_rule_code a_real_state_snow a_real_state_path a_real_state_debt a_told) := hD
      refine lv_iconst (v := 0) hx hb dX11_premium_52 (by decide) ?_
      refine lv_istore (lv' := [(4, .int 0), (3, .int 0), (2, .int i_town_houses), (0, .ref q0), (1, .int p1)]) hx hb dX11_premium_53 hl (by decide) rfl (fun ls hl => ?_)
      obtain ⟨o16, hg17, hf⟩ := bd_some hf
      refine L55 i_town_houses o5.1 o5.2.1 o5.2.2.1 o5.2.2.2.1 o5.2.2.2.2.1 o5.2.2.2.2.2.1 o5.2.2.2.2.2.2.1 o5.2.2.2.2.2.2.2.1 o5.2.2.2.2.2.2.2.2.1 o5.2.2.2.2.2.2.2.2.2.1 o5.2.2.2.2.2.2.2.2.2.2 FU 0 0 0 a_told o16 hg17 ?_ _ _ _ (lv_sub hl [3, 2, 1, 0] rfl) hP hD hS
      intro H locs ls hl hP hD hS
      refine lv_iload_n hx hb dX11_premium_115 rfl (lv_at hl 1 rfl) ?_
      refine lv_aload_n hx hb dX11_premium_116 rfl (lv_at hl 0 rfl) ?_
      refine gf_RX11_105 C hP 0 rfl rfl dX11_premium_117 ?_
      refine lv_iconst (v := 0) hx hb dX11_premium_120 (by decide) ?_
      obtain ⟨g18, hf⟩ := gd_some hf
      refine va_iald hx hb C.2.2.2.2.2.1 hP 21 0 rfl rfl (vin_in g18) dX11_premium_121 ?_
      refine lv_isub hx hb dX11_premium_122 ?_
      have hj0 := Option.some.inj hf
      subst hj0
      exact hret _ _ _ _ dX11_premium_123 rfl hP hD hS
    · rw [if_pos c4] at hf
      cases hf
theorem q420 : Cond.fieldLink RX11 98 "SnowForSummer" "tracks" "LSnowForSummer$Tracks;" ∈ Tg := Tg_mem 420 (by decide +kernel) (by decide +kernel)
theorem gf_RX11_98 {p : Program} {l : Launch} {e : Env} {R : Room} {s : State} {m : MethodId} {args : Array Value} {below : List Frame} {meth : Method} {c : Code} {H : Heap} {locs : List Loc} {cells slots : Nat} {Q : State → Prop} {E : ENV} {cc : ByteArray} {n : Nat} {r : Option FieldType} {pc : Nat} {ls : Array Slot} {rest : List Value} {a : Nat} {ws : va_W} {nm ds : String} {fs : List Value} {A : Nat → Prop} {v : Value} (C : Cx E A ⟨RX11, nm, ds⟩ cc n r p s m args meth c) (hP : va_P E.1 classes ws H) (q0 : Nat) (he : ws[q0]? = some (a, .inr (11, fs))) (hv : fs[14]? = some v) (hdg : decode cc pc = .ok (.getfield 98, 3))
    (kk : W p l e R s m args below meth c H locs cells slots Q (F0 m (pc + 3) ls (v :: rest))) : W p l e R s m args below meth c H locs cells slots Q (F0 m pc ls (.ref a :: rest)) :=
  va_get (C := RX11) (T := TX11) (N := 18) (Ts := wl ⟨RX11, nm, ds⟩ cc n r) C.1 C.2.1 C.2.2.2.2.1 (fun w h => List.mem_cons_of_mem _ (inT11 w h)) C.2.2.2.1 C.2.2.2.2.2.1 hP q0 he rfl 14 (by decide) (C.2.2.2.2.1 _ (List.mem_cons_of_mem _ q420)) (fun _ h9 => h9) hv hdg kk
theorem K_RX11_394 : KV RX11 394 yX8_add cX8_add 3 (some .int) 2 := ⟨Tg_mem 1185 (by decide +kernel) (by decide +kernel), Tg_mem 101 (by decide +kernel) (by decide +kernel), Tg_mem 1182 (by decide +kernel) (by decide +kernel), Tg_mem 1183 (by decide +kernel) (by decide +kernel), Tg_mem 1184 (by decide +kernel) (by decide +kernel), by decide +kernel⟩
theorem dX11_track_0 : decode cX11_track 0 = .ok (.aload_n 0, 1) := by decide +kernel
theorem dX11_track_1 : decode cX11_track 1 = .ok (.getfield 19, 3) := by decide +kernel
theorem dX11_track_4 : decode cX11_track 4 = .ok (.iload_n 1, 1) := by decide +kernel
theorem dX11_track_5 : decode cX11_track 5 = .ok (.invokevirtual 139, 3) := by decide +kernel
theorem dX11_track_8 : decode cX11_track 8 = .ok (.ifCond .eq 15, 3) := by decide +kernel
theorem dX11_track_11 : decode cX11_track 11 = .ok (.aload_n 0, 1) := by decide +kernel
theorem dX11_track_12 : decode cX11_track 12 = .ok (.getfield 98, 3) := by decide +kernel
theorem dX11_track_15 : decode cX11_track 15 = .ok (.iload_n 1, 1) := by decide +kernel
theorem dX11_track_16 : decode cX11_track 16 = .ok (.iload_n 2, 1) := by decide +kernel
theorem dX11_track_17 : decode cX11_track 17 = .ok (.invokevirtual 394, 3) := by decide +kernel
theorem dX11_track_20 : decode cX11_track 20 = .ok (.goto 4, 3) := by decide +kernel
theorem dX11_track_23 : decode cX11_track 23 = .ok (.iconst (-1), 1) := by decide +kernel
theorem dX11_track_24 : decode cX11_track 24 = .ok (.ireturn, 1) := by decide +kernel
def WX11_track (E : ENV) (q0 : Nat) (q0_text : Nat) (q0_town : Nat) (q0_weather : Nat) (q0_rule : Nat) (q0_acts : Nat) (q0_real : Nat) (q0_trial : Nat) (q0_round : Nat) (q0_nights : Nat) (q0_before : Nat) (q0_history : Nat) (q0_kept : Nat) (q0_keptHouses : Nat) (q0_shortest : Nat) (q0_tracks : Nat) (q0_tally : Nat) (q0_told : Nat) (q0_town_hold : Nat) (q0_town_below : Nat) (q0_town_hay : Nat) (q0_tracks_house : Nat) (q0_tracks_night : Nat) (q0_tracks_out : Nat) (i_toldCount : Int32) (i_town_houses : Int32) (i_tracks_size : Int32) (a_tracks_house : Nat → Int32) (a_tracks_night : Nat → Int32) : va_W := [(q0, .inr (11, [.ref q0_text, .ref q0_town, .ref q0_weather, .ref q0_rule, .ref q0_acts, .ref q0_real, .ref q0_trial, .ref q0_round, .ref q0_nights, .ref q0_before, .ref q0_history, .ref q0_kept, .ref q0_keptHouses, .ref q0_shortest, .ref q0_tracks, .ref q0_tally, .ref q0_told, .int i_toldCount])), (q0_town, .inr (7, [.ref q0_town_hold, .ref q0_town_below, .ref q0_town_hay, .int i_town_houses])), (q0_tracks, .inr (8, [.ref q0_tracks_house, .ref q0_tracks_night, .ref q0_tracks_out, .int i_tracks_size])), (q0_tracks_house, .inl (E.2.1, 20, .inl a_tracks_house)), (q0_tracks_night, .inl (E.2.1, 20, .inl a_tracks_night))]
set_option maxHeartbeats 4000000 in
set_option maxRecDepth 20000 in
theorem kX11_track (l : Launch) (E : ENV) (q0 : Nat) (q0_text : Nat) (q0_town : Nat) (q0_weather : Nat) (q0_rule : Nat) (q0_acts : Nat) (q0_real : Nat) (q0_trial : Nat) (q0_round : Nat) (q0_nights : Nat) (q0_before : Nat) (q0_history : Nat) (q0_kept : Nat) (q0_keptHouses : Nat) (q0_shortest : Nat) (q0_tracks : Nat) (q0_tally : Nat) (q0_told : Nat) (q0_town_hold : Nat) (q0_town_below : Nat) (q0_town_hay : Nat) (q0_tracks_house : Nat) (q0_tracks_night : Nat) (q0_tracks_out : Nat) (i_toldCount : Int32) (i_town_houses : Int32) (i_tracks_size : Int32) (a_tracks_house : Nat → Int32) (a_tracks_night : Nat → Int32) (p1 : Int32) (p2 : Int32) (o9 : Int32 × Int32 × (Nat → Int32) × (Nat → Int32)) (hf : fX11_track i_town_houses i_tracks_size a_tracks_house a_tracks_night p1 p2 = some o9) : CI l E yX11_track cX11_track 3 (some .int) 1 [.ref q0, .int p1, .int p2] (WX11_track E q0 q0_text q0_town q0_weather q0_rule q0_acts q0_real q0_trial q0_round q0_nights q0_before q0_history q0_kept q0_keptHouses q0_shortest q0_tracks q0_tally q0_told q0_town_hold q0_town_below q0_town_hay q0_tracks_house q0_tracks_night q0_tracks_out i_toldCount i_town_houses i_tracks_size a_tracks_house a_tracks_night) (WX11_track E q0 q0_text q0_town q0_weather q0_rule q0_acts q0_real q0_trial q0_round q0_nights q0_before q0_history q0_kept q0_keptHouses q0_shortest q0_tracks q0_tally q0_told q0_town_hold q0_town_below q0_town_hay q0_tracks_house q0_tracks_night q0_tracks_out i_toldCount i_town_houses o9.2.1 o9.2.2.1 o9.2.2.2) o9.1 := by
  refine begI (by decide +kernel) (Nat.le_of_ble_eq_true rfl) ?_
  intro p e s m args below meth c A Q C hA hret
  have hx := C.1
  have hb := C.2.1
  intro H locs ls hl hP hD hS
  have hl : lv_has ls 3 [(0, .ref q0), (1, .int p1), (2, .int p2)] := hl
  unfold fX11_track at hf
  refine lv_aload_n hx hb dX11_track_0 rfl (lv_at hl 0 rfl) ?_
  refine gf_RX11_19 C hP 0 rfl rfl dX11_track_1 ?_
  refine lv_iload_n hx hb dX11_track_4 rfl (lv_at hl 1 rfl) ?_
  obtain ⟨o1, hg2, hf⟩ := bd_some hf
  refine k_VI2 (As := [.int p1]) C K_RX11_139 (Nat.le_of_ble_eq_true rfl) (Nat.le_of_ble_eq_true rfl) (kX7_has l E q0_town q0_town_hold q0_town_below q0_town_hay i_town_houses p1 o1 hg2) [1] rfl rfl rfl (ci := 7) rfl rfl (q0 := 0) rfl hP hD hS hA hl.1 (Nat.le_of_ble_eq_true rfl) rfl dX11_track_5 (ws2 := (WX11_track E q0 q0_text q0_town q0_weather q0_rule q0_acts q0_real q0_trial q0_round q0_nights q0_before q0_history q0_kept q0_keptHouses q0_shortest q0_tracks q0_tally q0_told q0_town_hold q0_town_below q0_town_hay q0_tracks_house q0_tracks_night q0_tracks_out i_toldCount i_town_houses i_tracks_size a_tracks_house a_tracks_night)) 5 [0, 2, 3, 4] rfl rfl rfl rfl (by decide +kernel) (fun H locs hP hD hS => ?_)
  refine lv_if_eq (tgt := 23) hx hb dX11_track_8 (by decide) (fun c3 => ?_) (fun c3 => ?_)
  · rw [if_pos c3] at hf
    refine lv_iconst (v := (-1)) hx hb dX11_track_23 (by decide) ?_
    have hj0 := Option.some.inj hf
    subst hj0
    exact hret _ _ _ _ dX11_track_24 rfl hP hD hS
  · rw [if_neg c3] at hf
    refine lv_aload_n hx hb dX11_track_11 rfl (lv_at hl 0 rfl) ?_
    refine gf_RX11_98 C hP 0 rfl rfl dX11_track_12 ?_
    refine lv_iload_n hx hb dX11_track_15 rfl (lv_at hl 1 rfl) ?_
    refine lv_iload_n hx hb dX11_track_16 rfl (lv_at hl 2 rfl) ?_
    obtain ⟨o4, hg5, hf⟩ := bd_some hf
    refine k_VI2 (As := [.int p1, .int p2]) C K_RX11_394 (Nat.le_of_ble_eq_true rfl) (Nat.le_of_ble_eq_true rfl) (kX8_add l E q0_tracks q0_tracks_house q0_tracks_night q0_tracks_out i_tracks_size a_tracks_house a_tracks_night p1 p2 o4.1 o4.2.1 o4.2.2.1 o4.2.2.2 hg5) [2, 3, 4] rfl rfl rfl (ci := 8) rfl rfl (q0 := 0) rfl hP hD hS hA hl.1 (Nat.le_of_ble_eq_true rfl) rfl dX11_track_17 (ws2 := (WX11_track E q0 q0_text q0_town q0_weather q0_rule q0_acts q0_real q0_trial q0_round q0_nights q0_before q0_history q0_kept q0_keptHouses q0_shortest q0_tracks q0_tally q0_told q0_town_hold q0_town_below q0_town_hay q0_tracks_house q0_tracks_night q0_tracks_out i_toldCount i_town_houses o4.2.1 o4.2.2.1 o4.2.2.2)) 5 [0, 1] rfl rfl rfl rfl (by decide +kernel) (fun H locs hP hD hS => ?_)
    refine lv_goto (tgt := 24) hx hb dX11_track_20 (by decide) ?_
    have hj0 := Option.some.inj hf
    subst hj0
    exact hret _ _ _ _ dX11_track_24 rfl hP hD hS
theorem K_RX11_397 : KV RX11 397 yX8_forget cX8_forget 2 (some .int) 0 := ⟨Tg_mem 1193 (by decide +kernel) (by decide +kernel), Tg_mem 101 (by decide +kernel) (by decide +kernel), Tg_mem 1190 (by decide +kernel) (by decide +kernel), Tg_mem 1191 (by decide +kernel) (by decide +kernel), Tg_mem 1192 (by decide +kernel) (by decide +kernel), by decide +kernel⟩
theorem dX11_thaw_0 : decode cX11_thaw 0 = .ok (.aload_n 0, 1) := by decide +kernel
theorem dX11_thaw_1 : decode cX11_thaw 1 = .ok (.getfield 98, 3) := by decide +kernel
theorem dX11_thaw_4 : decode cX11_thaw 4 = .ok (.invokevirtual 397, 3) := by decide +kernel
theorem dX11_thaw_7 : decode cX11_thaw 7 = .ok (.ireturn, 1) := by decide +kernel
def WX11_thaw (E : ENV) (q0 : Nat) (q0_text : Nat) (q0_town : Nat) (q0_weather : Nat) (q0_rule : Nat) (q0_acts : Nat) (q0_real : Nat) (q0_trial : Nat) (q0_round : Nat) (q0_nights : Nat) (q0_before : Nat) (q0_history : Nat) (q0_kept : Nat) (q0_keptHouses : Nat) (q0_shortest : Nat) (q0_tracks : Nat) (q0_tally : Nat) (q0_told : Nat) (q0_tracks_house : Nat) (q0_tracks_night : Nat) (q0_tracks_out : Nat) (i_toldCount : Int32) (i_tracks_size : Int32) : va_W := [(q0, .inr (11, [.ref q0_text, .ref q0_town, .ref q0_weather, .ref q0_rule, .ref q0_acts, .ref q0_real, .ref q0_trial, .ref q0_round, .ref q0_nights, .ref q0_before, .ref q0_history, .ref q0_kept, .ref q0_keptHouses, .ref q0_shortest, .ref q0_tracks, .ref q0_tally, .ref q0_told, .int i_toldCount])), (q0_tracks, .inr (8, [.ref q0_tracks_house, .ref q0_tracks_night, .ref q0_tracks_out, .int i_tracks_size]))]
set_option maxHeartbeats 4000000 in
set_option maxRecDepth 20000 in
theorem kX11_thaw (l : Launch) (E : ENV) (q0 : Nat) (q0_text : Nat) (q0_town : Nat) (q0_weather : Nat) (q0_rule : Nat) (q0_acts : Nat) (q0_real : Nat) (q0_trial : Nat) (q0_round : Nat) (q0_nights : Nat) (q0_before : Nat) (q0_history : Nat) (q0_kept : Nat) (q0_keptHouses : Nat) (q0_shortest : Nat) (q0_tracks : Nat) (q0_tally : Nat) (q0_told : Nat) (q0_tracks_house : Nat) (q0_tracks_night : Nat) (q0_tracks_out : Nat) (i_toldCount : Int32) (i_tracks_size : Int32) (o9 : Int32 × Int32) (hf : fX11_thaw i_tracks_size = some o9) : CI l E yX11_thaw cX11_thaw 1 (some .int) 1 [.ref q0] (WX11_thaw E q0 q0_text q0_town q0_weather q0_rule q0_acts q0_real q0_trial q0_round q0_nights q0_before q0_history q0_kept q0_keptHouses q0_shortest q0_tracks q0_tally q0_told q0_tracks_house q0_tracks_night q0_tracks_out i_toldCount i_tracks_size) (WX11_thaw E q0 q0_text q0_town q0_weather q0_rule q0_acts q0_real q0_trial q0_round q0_nights q0_before q0_history q0_kept q0_keptHouses q0_shortest q0_tracks q0_tally q0_told q0_tracks_house q0_tracks_night q0_tracks_out i_toldCount o9.2) o9.1 := by
  refine begI (by decide +kernel) (Nat.le_of_ble_eq_true rfl) ?_
  intro p e s m args below meth c A Q C hA hret
  have hx := C.1
  have hb := C.2.1
  intro H locs ls hl hP hD hS
  have hl : lv_has ls 1 [(0, .ref q0)] := hl
  unfold fX11_thaw at hf
  refine lv_aload_n hx hb dX11_thaw_0 rfl (lv_at hl 0 rfl) ?_
  refine gf_RX11_98 C hP 0 rfl rfl dX11_thaw_1 ?_
  obtain ⟨o1, hg2, hf⟩ := bd_some hf
  refine k_VI2 (As := []) C K_RX11_397 (Nat.le_of_ble_eq_true rfl) (Nat.le_of_ble_eq_true rfl) (kX8_forget l E q0_tracks q0_tracks_house q0_tracks_night q0_tracks_out i_tracks_size o1.1 o1.2 hg2) [1] rfl rfl rfl (ci := 8) rfl rfl (q0 := 0) rfl hP hD hS hA hl.1 (Nat.le_of_ble_eq_true rfl) rfl dX11_thaw_4 (ws2 := (WX11_thaw E q0 q0_text q0_town q0_weather q0_rule q0_acts q0_real q0_trial q0_round q0_nights q0_before q0_history q0_kept q0_keptHouses q0_shortest q0_tracks q0_tally q0_told q0_tracks_house q0_tracks_night q0_tracks_out i_toldCount o1.2)) 2 [0] rfl rfl rfl rfl (by decide +kernel) (fun H locs hP hD hS => ?_)
  have hj0 := Option.some.inj hf
  subst hj0
  exact hret _ _ _ _ dX11_thaw_7 rfl hP hD hS
theorem K_RX11_399 : KV RX11 399 yX8_gather cX8_gather 2 none 0 := ⟨Tg_mem 1201 (by decide +kernel) (by decide +kernel), Tg_mem 101 (by decide +kernel) (by decide +kernel), Tg_mem 1198 (by decide +kernel) (by decide +kernel), Tg_mem 1199 (by decide +kernel) (by decide +kernel), Tg_mem 1200 (by decide +kernel) (by decide +kernel), by decide +kernel⟩
theorem q394 : Cond.fieldLinkNest RX11 402 "SnowForSummer$Tracks" "out" "[I" "SnowForSummer" ∈ NL := NL_mem 394 (by decide +kernel) (by decide +kernel)
theorem gf_RX11_402 {p : Program} {l : Launch} {e : Env} {R : Room} {s : State} {m : MethodId} {args : Array Value} {below : List Frame} {meth : Method} {c : Code} {H : Heap} {locs : List Loc} {cells slots : Nat} {Q : State → Prop} {E : ENV} {cc : ByteArray} {n : Nat} {r : Option FieldType} {pc : Nat} {ls : Array Slot} {rest : List Value} {a : Nat} {ws : va_W} {nm ds : String} {fs : List Value} {A : Nat → Prop} {v : Value} (C : Cx E A ⟨RX11, nm, ds⟩ cc n r p s m args meth c) (hP : va_P E.1 classes ws H) (q0 : Nat) (he : ws[q0]? = some (a, .inr (8, fs))) (hv : fs[2]? = some v) (hdg : decode cc pc = .ok (.getfield 402, 3))
    (kk : W p l e R s m args below meth c H locs cells slots Q (F0 m (pc + 3) ls (v :: rest))) : W p l e R s m args below meth c H locs cells slots Q (F0 m pc ls (.ref a :: rest)) :=
  va_getN (C := RX8) (T := TX8) (N := 4) (Ts := wl ⟨RX11, nm, ds⟩ cc n r) C.1 C.2.1 C.2.2.2.2.1 (fun w h => List.mem_cons_of_mem _ (inT8 w h)) C.2.2.2.1 C.2.2.2.2.2.1 hP q0 he rfl 2 (by decide) (va_Nw.use rfl (C.2.2.2.2.2.2.2.2.1 _ q394)) (fun _ h9 => h9) hv hdg kk
theorem dX11_suspects_0 : decode cX11_suspects 0 = .ok (.iload_n 1, 1) := by decide +kernel
theorem dX11_suspects_1 : decode cX11_suspects 1 = .ok (.ifCond .ge 5, 3) := by decide +kernel
theorem dX11_suspects_4 : decode cX11_suspects 4 = .ok (.iconst (-1), 1) := by decide +kernel
theorem dX11_suspects_5 : decode cX11_suspects 5 = .ok (.ireturn, 1) := by decide +kernel
theorem dX11_suspects_6 : decode cX11_suspects 6 = .ok (.aload_n 0, 1) := by decide +kernel
theorem dX11_suspects_7 : decode cX11_suspects 7 = .ok (.getfield 19, 3) := by decide +kernel
theorem dX11_suspects_10 : decode cX11_suspects 10 = .ok (.invokevirtual 354, 3) := by decide +kernel
theorem dX11_suspects_13 : decode cX11_suspects 13 = .ok (.istore_n 2, 1) := by decide +kernel
theorem dX11_suspects_14 : decode cX11_suspects 14 = .ok (.aload_n 0, 1) := by decide +kernel
theorem dX11_suspects_15 : decode cX11_suspects 15 = .ok (.getfield 98, 3) := by decide +kernel
theorem dX11_suspects_18 : decode cX11_suspects 18 = .ok (.invokevirtual 399, 3) := by decide +kernel
theorem dX11_suspects_21 : decode cX11_suspects 21 = .ok (.iconst 0, 1) := by decide +kernel
theorem dX11_suspects_22 : decode cX11_suspects 22 = .ok (.istore_n 3, 1) := by decide +kernel
theorem dX11_suspects_23 : decode cX11_suspects 23 = .ok (.iload_n 3, 1) := by decide +kernel
theorem dX11_suspects_24 : decode cX11_suspects 24 = .ok (.bipush 31, 2) := by decide +kernel
theorem dX11_suspects_26 : decode cX11_suspects 26 = .ok (.if_icmp .ge 30, 3) := by decide +kernel
theorem dX11_suspects_29 : decode cX11_suspects 29 = .ok (.iload_n 1, 1) := by decide +kernel
theorem dX11_suspects_30 : decode cX11_suspects 30 = .ok (.iload_n 3, 1) := by decide +kernel
theorem dX11_suspects_31 : decode cX11_suspects 31 = .ok (.ishr, 1) := by decide +kernel
theorem dX11_suspects_32 : decode cX11_suspects 32 = .ok (.iconst 1, 1) := by decide +kernel
theorem dX11_suspects_33 : decode cX11_suspects 33 = .ok (.iand, 1) := by decide +kernel
theorem dX11_suspects_34 : decode cX11_suspects 34 = .ok (.iconst 1, 1) := by decide +kernel
theorem dX11_suspects_35 : decode cX11_suspects 35 = .ok (.if_icmp .ne 15, 3) := by decide +kernel
theorem dX11_suspects_38 : decode cX11_suspects 38 = .ok (.iload_n 2, 1) := by decide +kernel
theorem dX11_suspects_39 : decode cX11_suspects 39 = .ok (.aload_n 0, 1) := by decide +kernel
theorem dX11_suspects_40 : decode cX11_suspects 40 = .ok (.getfield 98, 3) := by decide +kernel
theorem dX11_suspects_43 : decode cX11_suspects 43 = .ok (.getfield 402, 3) := by decide +kernel
theorem dX11_suspects_46 : decode cX11_suspects 46 = .ok (.iload_n 3, 1) := by decide +kernel
theorem dX11_suspects_47 : decode cX11_suspects 47 = .ok (.iaload, 1) := by decide +kernel
theorem dX11_suspects_48 : decode cX11_suspects 48 = .ok (.iand, 1) := by decide +kernel
theorem dX11_suspects_49 : decode cX11_suspects 49 = .ok (.istore_n 2, 1) := by decide +kernel
theorem dX11_suspects_50 : decode cX11_suspects 50 = .ok (.iinc 3 1, 3) := by decide +kernel
theorem dX11_suspects_53 : decode cX11_suspects 53 = .ok (.goto (-30), 3) := by decide +kernel
theorem dX11_suspects_56 : decode cX11_suspects 56 = .ok (.iload_n 2, 1) := by decide +kernel
theorem dX11_suspects_57 : decode cX11_suspects 57 = .ok (.ireturn, 1) := by decide +kernel
def WX11_suspects (E : ENV) (q0 : Nat) (q0_text : Nat) (q0_town : Nat) (q0_weather : Nat) (q0_rule : Nat) (q0_acts : Nat) (q0_real : Nat) (q0_trial : Nat) (q0_round : Nat) (q0_nights : Nat) (q0_before : Nat) (q0_history : Nat) (q0_kept : Nat) (q0_keptHouses : Nat) (q0_shortest : Nat) (q0_tracks : Nat) (q0_tally : Nat) (q0_told : Nat) (q0_town_hold : Nat) (q0_town_below : Nat) (q0_town_hay : Nat) (q0_tracks_house : Nat) (q0_tracks_night : Nat) (q0_tracks_out : Nat) (i_toldCount : Int32) (i_town_houses : Int32) (i_tracks_size : Int32) (a_tracks_out : Nat → Int32) (a_tracks_night : Nat → Int32) (a_tracks_house : Nat → Int32) : va_W := [(q0, .inr (11, [.ref q0_text, .ref q0_town, .ref q0_weather, .ref q0_rule, .ref q0_acts, .ref q0_real, .ref q0_trial, .ref q0_round, .ref q0_nights, .ref q0_before, .ref q0_history, .ref q0_kept, .ref q0_keptHouses, .ref q0_shortest, .ref q0_tracks, .ref q0_tally, .ref q0_told, .int i_toldCount])), (q0_town, .inr (7, [.ref q0_town_hold, .ref q0_town_below, .ref q0_town_hay, .int i_town_houses])), (q0_tracks, .inr (8, [.ref q0_tracks_house, .ref q0_tracks_night, .ref q0_tracks_out, .int i_tracks_size])), (q0_tracks_out, .inl (E.2.1, 31, .inl a_tracks_out)), (q0_tracks_night, .inl (E.2.1, 20, .inl a_tracks_night)), (q0_tracks_house, .inl (E.2.1, 20, .inl a_tracks_house))]
set_option maxHeartbeats 4000000 in
set_option maxRecDepth 20000 in
theorem kX11_suspects (l : Launch) (E : ENV) (q0 : Nat) (q0_text : Nat) (q0_town : Nat) (q0_weather : Nat) (q0_rule : Nat) (q0_acts : Nat) (q0_real : Nat) (q0_trial : Nat) (q0_round : Nat) (q0_nights : Nat) (q0_before : Nat) (q0_history : Nat) (q0_kept : Nat) (q0_keptHouses : Nat) (q0_shortest : Nat) (q0_tracks : Nat) (q0_tally : Nat) (q0_told : Nat) (q0_town_hold : Nat) (q0_town_below : Nat) (q0_town_hay : Nat) (q0_tracks_house : Nat) (q0_tracks_night : Nat) (q0_tracks_out : Nat) (i_toldCount : Int32) (i_town_houses : Int32) (i_tracks_size : Int32) (a_tracks_out : Nat → Int32) (a_tracks_night : Nat → Int32) (a_tracks_house : Nat → Int32) (p1 : Int32) (o9 : Int32 × (Nat → Int32)) (hf : fX11_suspects i_town_houses i_tracks_size a_tracks_out a_tracks_night a_tracks_house p1 = some o9) : CI l E yX11_suspects cX11_suspects 4 (some .int) 2 [.ref q0, .int p1] (WX11_suspects E q0 q0_text q0_town q0_weather q0_rule q0_acts q0_real q0_trial q0_round q0_nights q0_before q0_history q0_kept q0_keptHouses q0_shortest q0_tracks q0_tally q0_told q0_town_hold q0_town_below q0_town_hay q0_tracks_house q0_tracks_night q0_tracks_out i_toldCount i_town_houses i_tracks_size a_tracks_out a_tracks_night a_tracks_house) (WX11_suspects E q0 q0_text q0_town q0_weather q0_rule q0_acts q0_real q0_trial q0_round q0_nights q0_before q0_history q0_kept q0_keptHouses q0_shortest q0_tracks q0_tally q0_told q0_town_hold q0_town_below q0_town_hay q0_tracks_house q0_tracks_night q0_tracks_out i_toldCount i_town_houses i_tracks_size o9.2 a_tracks_night a_tracks_house) o9.1 := by
  refine begI (by decide +kernel) (Nat.le_of_ble_eq_true rfl) ?_
  intro p e s m args below meth c A Q C hA hret
  have hx := C.1
  have hb := C.2.1
  have L23 : ∀ (a_tracks_out : Nat → Int32), ∀ (n : Nat) (v2 : Int32) (v3 : Int32) (o : Int32), fX11_suspects_L23 p1 a_tracks_out n v2 v3 = some o → (GO p l e 2 s m args below meth c Q E A 4 56 [] [(2, .int o)] (WX11_suspects E q0 q0_text q0_town q0_weather q0_rule q0_acts q0_real q0_trial q0_round q0_nights q0_before q0_history q0_kept q0_keptHouses q0_shortest q0_tracks q0_tally q0_told q0_town_hold q0_town_below q0_town_hay q0_tracks_house q0_tracks_night q0_tracks_out i_toldCount i_town_houses i_tracks_size a_tracks_out a_tracks_night a_tracks_house)) → GO p l e 2 s m args below meth c Q E A 4 23 [] [(0, .ref q0), (1, .int p1), (2, .int v2), (3, .int v3)] (WX11_suspects E q0 q0_text q0_town q0_weather q0_rule q0_acts q0_real q0_trial q0_round q0_nights q0_before q0_history q0_kept q0_keptHouses q0_shortest q0_tracks q0_tally q0_told q0_town_hold q0_town_below q0_town_hay q0_tracks_house q0_tracks_night q0_tracks_out i_toldCount i_town_houses i_tracks_size a_tracks_out a_tracks_night a_tracks_house) := by
    intro a_tracks_out
    intro n
    induction n with
    | zero =>
      intro v2 v3 o hf
      have hf : none = some o := hf
      cases hf
    | succ n ih =>
      intro v2 v3 o hf hE
      intro H locs ls hl hP hD hS
      rw [fX11_suspects_L23] at hf
      refine lv_iload_n hx hb dX11_suspects_23 rfl (lv_at hl 3 rfl) ?_
      refine lv_bipush (v := 31) hx hb dX11_suspects_24 (by decide) ?_
      refine lv_icmp_ge (tgt := 56) hx hb dX11_suspects_26 (by decide) (fun c6 => ?_) (fun c6 => ?_)
      · rw [if_pos c6] at hf
        have hf := Option.some.inj hf
        subst hf
        exact hE _ _ _ (lv_sub hl [2] rfl) hP hD hS
      · rw [if_neg c6] at hf
        refine lv_iload_n hx hb dX11_suspects_29 rfl (lv_at hl 1 rfl) ?_
        refine lv_iload_n hx hb dX11_suspects_30 rfl (lv_at hl 3 rfl) ?_
        refine lv_ishr hx hb dX11_suspects_31 ?_
        refine lv_iconst (v := 1) hx hb dX11_suspects_32 (by decide) ?_
        refine lv_iand hx hb dX11_suspects_33 ?_
        refine lv_iconst (v := 1) hx hb dX11_suspects_34 (by decide) ?_
        refine lv_icmp_ne (tgt := 50) hx hb dX11_suspects_35 (by decide) (fun c7 => ?_) (fun c7 => ?_)
        · rw [if_neg c7] at hf
          refine lv_iinc (v := (v3 + 1)) (lv' := [(3, .int ((v3 + 1))), (0, .ref q0), (1, .int p1), (2, .int v2)]) hx hb dX11_suspects_50 hl (k := 3) rfl rfl (by decide) rfl (fun ls hl => ?_)
          refine lv_goto (tgt := 23) hx hb dX11_suspects_53 (by decide) ?_
          exact ih v2 ((v3 + 1)) _ hf hE _ _ _ (lv_sub hl [1, 2, 3, 0] rfl) hP hD hS
        · rw [if_pos c7] at hf
          refine lv_iload_n hx hb dX11_suspects_38 rfl (lv_at hl 2 rfl) ?_
          refine lv_aload_n hx hb dX11_suspects_39 rfl (lv_at hl 0 rfl) ?_
          refine gf_RX11_98 C hP 0 rfl rfl dX11_suspects_40 ?_
          refine gf_RX11_402 C hP 2 rfl rfl dX11_suspects_43 ?_
          refine lv_iload_n hx hb dX11_suspects_46 rfl (lv_at hl 3 rfl) ?_
          obtain ⟨g8, hf⟩ := gd_some hf
          refine va_iald hx hb C.2.2.2.2.2.1 hP 3 0 rfl rfl (vin_in g8) dX11_suspects_47 ?_
          refine lv_iand hx hb dX11_suspects_48 ?_
          refine lv_istore_n (lv' := [(2, .int ((v2 &&& ((a_tracks_out (v3 : Int32).toNatClampNeg))))), (0, .ref q0), (1, .int p1), (3, .int v3)]) hx hb dX11_suspects_49 rfl hl (by decide) rfl (fun ls hl => ?_)
          refine lv_iinc (v := (v3 + 1)) (lv' := [(3, .int ((v3 + 1))), (2, .int ((v2 &&& ((a_tracks_out (v3 : Int32).toNatClampNeg))))), (0, .ref q0), (1, .int p1)]) hx hb dX11_suspects_50 hl (k := 3) rfl rfl (by decide) rfl (fun ls hl => ?_)
          refine lv_goto (tgt := 23) hx hb dX11_suspects_53 (by decide) ?_
          exact ih ((v2 &&& ((a_tracks_out (v3 : Int32).toNatClampNeg)))) ((v3 + 1)) _ hf hE _ _ _ (lv_sub hl [2, 3, 1, 0] rfl) hP hD hS
  intro H locs ls hl hP hD hS
  have hl : lv_has ls 4 [(0, .ref q0), (1, .int p1)] := hl
  unfold fX11_suspects at hf
  refine lv_iload_n hx hb dX11_suspects_0 rfl (lv_at hl 1 rfl) ?_
  refine lv_if_ge (tgt := 6) hx hb dX11_suspects_1 (by decide) (fun c1 => ?_) (fun c1 => ?_)
  · rw [if_pos c1] at hf
    refine lv_aload_n hx hb dX11_suspects_6 rfl (lv_at hl 0 rfl) ?_
    refine gf_RX11_19 C hP 0 rfl rfl dX11_suspects_7 ?_
    obtain ⟨o2, hg3, hf⟩ := bd_some hf
    refine k_VI2 (As := []) C K_RX11_354 (Nat.le_of_ble_eq_true rfl) (Nat.le_of_ble_eq_true rfl) (kX7_allBits l E q0_town q0_town_hold q0_town_below q0_town_hay i_town_houses o2 hg3) [1] rfl rfl rfl (ci := 7) rfl rfl (q0 := 0) rfl hP hD hS hA hl.1 (Nat.le_of_ble_eq_true rfl) rfl dX11_suspects_10 (ws2 := (WX11_suspects E q0 q0_text q0_town q0_weather q0_rule q0_acts q0_real q0_trial q0_round q0_nights q0_before q0_history q0_kept q0_keptHouses q0_shortest q0_tracks q0_tally q0_told q0_town_hold q0_town_below q0_town_hay q0_tracks_house q0_tracks_night q0_tracks_out i_toldCount i_town_houses i_tracks_size a_tracks_out a_tracks_night a_tracks_house)) 6 [0, 2, 3, 4, 5] rfl rfl rfl rfl (by decide +kernel) (fun H locs hP hD hS => ?_)
    refine lv_istore_n (lv' := [(2, .int o2), (0, .ref q0), (1, .int p1)]) hx hb dX11_suspects_13 rfl hl (by decide) rfl (fun ls hl => ?_)
    refine lv_aload_n hx hb dX11_suspects_14 rfl (lv_at hl 1 rfl) ?_
    refine gf_RX11_98 C hP 0 rfl rfl dX11_suspects_15 ?_
    obtain ⟨o4, hg5, hf⟩ := bd_some hf
    refine k_VV2 (As := []) C K_RX11_399 (Nat.le_of_ble_eq_true rfl) (Nat.le_of_ble_eq_true rfl) (kX8_gather l E q0_tracks q0_tracks_house q0_tracks_night q0_tracks_out i_tracks_size a_tracks_out a_tracks_night a_tracks_house o4 hg5) [2, 3, 4, 5] rfl rfl rfl (ci := 8) rfl rfl (q0 := 0) rfl hP hD hS hA hl.1 (Nat.le_of_ble_eq_true rfl) rfl dX11_suspects_18 (ws2 := (WX11_suspects E q0 q0_text q0_town q0_weather q0_rule q0_acts q0_real q0_trial q0_round q0_nights q0_before q0_history q0_kept q0_keptHouses q0_shortest q0_tracks q0_tally q0_told q0_town_hold q0_town_below q0_town_hay q0_tracks_house q0_tracks_night q0_tracks_out i_toldCount i_town_houses i_tracks_size o4 a_tracks_night a_tracks_house)) 6 [0, 1] rfl rfl rfl rfl (by decide +kernel) (fun H locs hP hD hS => ?_)
    refine lv_iconst (v := 0) hx hb dX11_suspects_21 (by decide) ?_
    refine lv_istore_n (lv' := [(3, .int 0), (2, .int o2), (0, .ref q0), (1, .int p1)]) hx hb dX11_suspects_22 rfl hl (by decide) rfl (fun ls hl => ?_)
    obtain ⟨o9, hg10, hf⟩ := bd_some hf
    refine L23 o4 FU o2 0 o9 hg10 ?_ _ _ _ (lv_sub hl [2, 3, 1, 0] rfl) hP hD hS
    intro H locs ls hl hP hD hS
    refine lv_iload_n hx hb dX11_suspects_56 rfl (lv_at hl 0 rfl) ?_
    have hj0 := Option.some.inj hf
    subst hj0
    exact hret _ _ _ _ dX11_suspects_57 rfl hP hD hS
  · rw [if_neg c1] at hf
    refine lv_iconst (v := (-1)) hx hb dX11_suspects_4 (by decide) ?_
    have hj0 := Option.some.inj hf
    subst hj0
    exact hret _ _ _ _ dX11_suspects_5 rfl hP hD hS
theorem K_RX11_405 : KV RX11 405 yX8_areSeen cX8_areSeen 4 (some .boolean) 2 := ⟨Tg_mem 1210 (by decide +kernel) (by decide +kernel), Tg_mem 101 (by decide +kernel) (by decide +kernel), Tg_mem 1207 (by decide +kernel) (by decide +kernel), Tg_mem 1208 (by decide +kernel) (by decide +kernel), Tg_mem 1209 (by decide +kernel) (by decide +kernel), by decide +kernel⟩
