theorem dX11_dig_0 : decode cX11_dig 0 = .ok (.aload_n 0, 1) := by decide +kernel
theorem dX11_dig_1 : decode cX11_dig 1 = .ok (.getfield 19, 3) := by decide +kernel
theorem dX11_dig_4 : decode cX11_dig 4 = .ok (.iload_n 1, 1) := by decide +kernel
theorem dX11_dig_5 : decode cX11_dig 5 = .ok (.invokevirtual 139, 3) := by decide +kernel
theorem dX11_dig_8 : decode cX11_dig 8 = .ok (.ifCond .eq 24, 3) := by decide +kernel
theorem dX11_dig_11 : decode cX11_dig 11 = .ok (.iload_n 2, 1) := by decide +kernel
theorem dX11_dig_12 : decode cX11_dig 12 = .ok (.iconst 0, 1) := by decide +kernel
theorem dX11_dig_13 : decode cX11_dig 13 = .ok (.sipush 999, 3) := by decide +kernel
theorem dX11_dig_16 : decode cX11_dig 16 = .ok (.invokestatic 128, 3) := by decide +kernel
theorem dX11_dig_19 : decode cX11_dig 19 = .ok (.ifCond .eq 13, 3) := by decide +kernel
theorem dX11_dig_22 : decode cX11_dig 22 = .ok (.iload_n 3, 1) := by decide +kernel
theorem dX11_dig_23 : decode cX11_dig 23 = .ok (.iconst 0, 1) := by decide +kernel
theorem dX11_dig_24 : decode cX11_dig 24 = .ok (.bipush 60, 2) := by decide +kernel
theorem dX11_dig_26 : decode cX11_dig 26 = .ok (.invokestatic 128, 3) := by decide +kernel
theorem dX11_dig_29 : decode cX11_dig 29 = .ok (.ifCond .ne 5, 3) := by decide +kernel
theorem dX11_dig_32 : decode cX11_dig 32 = .ok (.iconst (-1), 1) := by decide +kernel
theorem dX11_dig_33 : decode cX11_dig 33 = .ok (.ireturn, 1) := by decide +kernel
theorem dX11_dig_34 : decode cX11_dig 34 = .ok (.aload_n 0, 1) := by decide +kernel
theorem dX11_dig_35 : decode cX11_dig 35 = .ok (.getfield 49, 3) := by decide +kernel
theorem dX11_dig_38 : decode cX11_dig 38 = .ok (.getfield 148, 3) := by decide +kernel
theorem dX11_dig_41 : decode cX11_dig 41 = .ok (.getfield 154, 3) := by decide +kernel
theorem dX11_dig_44 : decode cX11_dig 44 = .ok (.iload_n 1, 1) := by decide +kernel
theorem dX11_dig_45 : decode cX11_dig 45 = .ok (.iaload, 1) := by decide +kernel
theorem dX11_dig_46 : decode cX11_dig 46 = .ok (.istore 4, 2) := by decide +kernel
theorem dX11_dig_48 : decode cX11_dig 48 = .ok (.aload_n 0, 1) := by decide +kernel
theorem dX11_dig_49 : decode cX11_dig 49 = .ok (.iload_n 1, 1) := by decide +kernel
theorem dX11_dig_50 : decode cX11_dig 50 = .ok (.iload 4, 2) := by decide +kernel
theorem dX11_dig_52 : decode cX11_dig 52 = .ok (.iload_n 2, 1) := by decide +kernel
theorem dX11_dig_53 : decode cX11_dig 53 = .ok (.iload_n 3, 1) := by decide +kernel
theorem dX11_dig_54 : decode cX11_dig 54 = .ok (.invokevirtual 360, 3) := by decide +kernel
theorem dX11_dig_57 : decode cX11_dig 57 = .ok (.ifCond .ne 6, 3) := by decide +kernel
theorem dX11_dig_60 : decode cX11_dig 60 = .ok (.bipush (-2), 2) := by decide +kernel
theorem dX11_dig_62 : decode cX11_dig 62 = .ok (.ireturn, 1) := by decide +kernel
theorem dX11_dig_63 : decode cX11_dig 63 = .ok (.iconst 0, 1) := by decide +kernel
theorem dX11_dig_64 : decode cX11_dig 64 = .ok (.istore 5, 2) := by decide +kernel
theorem dX11_dig_66 : decode cX11_dig 66 = .ok (.iconst 0, 1) := by decide +kernel
theorem dX11_dig_67 : decode cX11_dig 67 = .ok (.istore 6, 2) := by decide +kernel
theorem dX11_dig_69 : decode cX11_dig 69 = .ok (.iload 6, 2) := by decide +kernel
theorem dX11_dig_71 : decode cX11_dig 71 = .ok (.sipush 999, 3) := by decide +kernel
theorem dX11_dig_74 : decode cX11_dig 74 = .ok (.if_icmp .gt 50, 3) := by decide +kernel
theorem dX11_dig_77 : decode cX11_dig 77 = .ok (.iload 5, 2) := by decide +kernel
theorem dX11_dig_79 : decode cX11_dig 79 = .ok (.iload 4, 2) := by decide +kernel
theorem dX11_dig_81 : decode cX11_dig 81 = .ok (.if_icmp .ge 43, 3) := by decide +kernel
theorem dX11_dig_84 : decode cX11_dig 84 = .ok (.iload 5, 2) := by decide +kernel
theorem dX11_dig_86 : decode cX11_dig 86 = .ok (.iload 4, 2) := by decide +kernel
theorem dX11_dig_88 : decode cX11_dig 88 = .ok (.iadd, 1) := by decide +kernel
theorem dX11_dig_89 : decode cX11_dig 89 = .ok (.iconst 2, 1) := by decide +kernel
theorem dX11_dig_90 : decode cX11_dig 90 = .ok (.idiv, 1) := by decide +kernel
theorem dX11_dig_91 : decode cX11_dig 91 = .ok (.istore 7, 2) := by decide +kernel
theorem dX11_dig_93 : decode cX11_dig 93 = .ok (.aload_n 0, 1) := by decide +kernel
theorem dX11_dig_94 : decode cX11_dig 94 = .ok (.iload_n 1, 1) := by decide +kernel
theorem dX11_dig_95 : decode cX11_dig 95 = .ok (.iload 7, 2) := by decide +kernel
theorem dX11_dig_97 : decode cX11_dig 97 = .ok (.iload_n 2, 1) := by decide +kernel
theorem dX11_dig_98 : decode cX11_dig 98 = .ok (.iload_n 3, 1) := by decide +kernel
theorem dX11_dig_99 : decode cX11_dig 99 = .ok (.invokevirtual 360, 3) := by decide +kernel
theorem dX11_dig_102 : decode cX11_dig 102 = .ok (.ifCond .eq 10, 3) := by decide +kernel
theorem dX11_dig_105 : decode cX11_dig 105 = .ok (.iload 7, 2) := by decide +kernel
theorem dX11_dig_107 : decode cX11_dig 107 = .ok (.istore 4, 2) := by decide +kernel
theorem dX11_dig_109 : decode cX11_dig 109 = .ok (.goto 9, 3) := by decide +kernel
theorem dX11_dig_112 : decode cX11_dig 112 = .ok (.iload 7, 2) := by decide +kernel
theorem dX11_dig_114 : decode cX11_dig 114 = .ok (.iconst 1, 1) := by decide +kernel
theorem dX11_dig_115 : decode cX11_dig 115 = .ok (.iadd, 1) := by decide +kernel
theorem dX11_dig_116 : decode cX11_dig 116 = .ok (.istore 5, 2) := by decide +kernel
theorem dX11_dig_118 : decode cX11_dig 118 = .ok (.iinc 6 1, 3) := by decide +kernel
theorem dX11_dig_121 : decode cX11_dig 121 = .ok (.goto (-52), 3) := by decide +kernel
theorem dX11_dig_124 : decode cX11_dig 124 = .ok (.iload 5, 2) := by decide +kernel
theorem dX11_dig_126 : decode cX11_dig 126 = .ok (.ireturn, 1) := by decide +kernel
def WX11_dig (E : ENV) (q0 : Nat) (q0_text : Nat) (q0_town : Nat) (q0_weather : Nat) (q0_rule : Nat) (q0_acts : Nat) (q0_real : Nat) (q0_trial : Nat) (q0_round : Nat) (q0_nights : Nat) (q0_before : Nat) (q0_history : Nat) (q0_kept : Nat) (q0_keptHouses : Nat) (q0_shortest : Nat) (q0_tracks : Nat) (q0_tally : Nat) (q0_told : Nat) (q0_town_hold : Nat) (q0_town_below : Nat) (q0_town_hay : Nat) (q0_real_state : Nat) (q0_real_owedBy : Nat) (q0_real_state_snow : Nat) (q0_real_state_path : Nat) (q0_real_state_debt : Nat) (q0_trial_state : Nat) (q0_trial_owedBy : Nat) (q0_trial_state_snow : Nat) (q0_trial_state_path : Nat) (q0_trial_state_debt : Nat) (q0_weather_inches : Nat) (q0_rule_code : Nat) (q0_rule_draft : Nat) (q0_rule_stack : Nat) (q0_rule_things : Nat) (i_toldCount : Int32) (i_town_houses : Int32) (i_real_owed : Int32) (i_real_slides : Int32) (i_real_struck : Int32) (i_real_slid : Int32) (i_real_state_now : Int32) (a_real_state_path : Nat → Int32) (i_trial_owed : Int32) (i_trial_slides : Int32) (i_trial_struck : Int32) (i_trial_slid : Int32) (i_trial_state_now : Int32) (i_weather_length : Int32) (i_weather_cycle : Int32) (i_rule_length : Int32) (i_rule_drafted : Int32) (a_trial_state_snow : Nat → Int32) (a_trial_state_path : Nat → Int32) (a_trial_state_debt : Nat → Int32) (a_trial_owedBy : Nat → Int32) (a_real_state_snow : Nat → Int32) (a_real_state_debt : Nat → Int32) (a_weather_inches : Nat → Int32) (a_town_hold : Nat → Int32) (a_town_below : Nat → Int32) (a_rule_things : Nat → Int32) (a_rule_stack : Nat → Int32) (a_rule_code : Nat → Int32) : va_W := [(q0, .inr (11, [.ref q0_text, .ref q0_town, .ref q0_weather, .ref q0_rule, .ref q0_acts, .ref q0_real, .ref q0_trial, .ref q0_round, .ref q0_nights, .ref q0_before, .ref q0_history, .ref q0_kept, .ref q0_keptHouses, .ref q0_shortest, .ref q0_tracks, .ref q0_tally, .ref q0_told, .int i_toldCount])), (q0_town, .inr (7, [.ref q0_town_hold, .ref q0_town_below, .ref q0_town_hay, .int i_town_houses])), (q0_real, .inr (9, [.ref q0_town, .ref q0_weather, .ref q0_rule, .ref q0_real_state, .ref q0_real_owedBy, .int i_real_owed, .int i_real_slides, .int i_real_struck, .int i_real_slid])), (q0_real_state, .inr (5, [.ref q0_real_state_snow, .ref q0_real_state_path, .ref q0_real_state_debt, .int i_real_state_now])), (q0_real_state_path, .inl (E.2.1, 7, .inl a_real_state_path)), (q0_trial, .inr (9, [.ref q0_town, .ref q0_weather, .ref q0_rule, .ref q0_trial_state, .ref q0_trial_owedBy, .int i_trial_owed, .int i_trial_slides, .int i_trial_struck, .int i_trial_slid])), (q0_trial_state, .inr (5, [.ref q0_trial_state_snow, .ref q0_trial_state_path, .ref q0_trial_state_debt, .int i_trial_state_now])), (q0_weather, .inr (10, [.ref q0_weather_inches, .int i_weather_length, .int i_weather_cycle])), (q0_rule, .inr (4, [.ref q0_rule_code, .ref q0_rule_draft, .ref q0_rule_stack, .ref q0_rule_things, .int i_rule_length, .int i_rule_drafted])), (q0_trial_state_snow, .inl (E.2.1, 14, .inl a_trial_state_snow)), (q0_trial_state_path, .inl (E.2.1, 7, .inl a_trial_state_path)), (q0_trial_state_debt, .inl (E.2.1, 49, .inl a_trial_state_debt)), (q0_trial_owedBy, .inl (E.2.1, 7, .inl a_trial_owedBy)), (q0_real_state_snow, .inl (E.2.1, 14, .inl a_real_state_snow)), (q0_real_state_debt, .inl (E.2.1, 49, .inl a_real_state_debt)), (q0_weather_inches, .inl (E.2.1, 40, .inl a_weather_inches)), (q0_town_hold, .inl (E.2.1, 7, .inl a_town_hold)), (q0_town_below, .inl (E.2.1, 14, .inl a_town_below)), (q0_rule_things, .inl (E.2.1, 8, .inl a_rule_things)), (q0_rule_stack, .inl (E.2.1, 40, .inl a_rule_stack)), (q0_rule_code, .inl (E.2.1, 40, .inl a_rule_code))]
set_option maxHeartbeats 4000000 in
set_option maxRecDepth 20000 in
theorem kX11_dig (l : Launch) (E : ENV) (q0 : Nat) (q0_text : Nat) (q0_town : Nat) (q0_weather : Nat) (q0_rule : Nat) (q0_acts : Nat) (q0_real : Nat) (q0_trial : Nat) (q0_round : Nat) (q0_nights : Nat) (q0_before : Nat) (q0_history : Nat) (q0_kept : Nat) (q0_keptHouses : Nat) (q0_shortest : Nat) (q0_tracks : Nat) (q0_tally : Nat) (q0_told : Nat) (q0_town_hold : Nat) (q0_town_below : Nat) (q0_town_hay : Nat) (q0_real_state : Nat) (q0_real_owedBy : Nat) (q0_real_state_snow : Nat) (q0_real_state_path : Nat) (q0_real_state_debt : Nat) (q0_trial_state : Nat) (q0_trial_owedBy : Nat) (q0_trial_state_snow : Nat) (q0_trial_state_path : Nat) (q0_trial_state_debt : Nat) (q0_weather_inches : Nat) (q0_rule_code : Nat) (q0_rule_draft : Nat) (q0_rule_stack : Nat) (q0_rule_things : Nat) (i_toldCount : Int32) (i_town_houses : Int32) (i_real_owed : Int32) (i_real_slides : Int32) (i_real_struck : Int32) (i_real_slid : Int32) (i_real_state_now : Int32) (a_real_state_path : Nat → Int32) (i_trial_owed : Int32) (i_trial_slides : Int32) (i_trial_struck : Int32) (i_trial_slid : Int32) (i_trial_state_now : Int32) (i_weather_length : Int32) (i_weather_cycle : Int32) (i_rule_length : Int32) (i_rule_drafted : Int32) (a_trial_state_snow : Nat → Int32) (a_trial_state_path : Nat → Int32) (a_trial_state_debt : Nat → Int32) (a_trial_owedBy : Nat → Int32) (a_real_state_snow : Nat → Int32) (a_real_state_debt : Nat → Int32) (a_weather_inches : Nat → Int32) (a_town_hold : Nat → Int32) (a_town_below : Nat → Int32) (a_rule_things : Nat → Int32) (a_rule_stack : Nat → Int32) (a_rule_code : Nat → Int32) (p1 : Int32) (p2 : Int32) (p3 : Int32) (o9 : Int32 × Int32 × Int32 × Int32 × Int32 × Int32 × (Nat → Int32) × (Nat → Int32) × (Nat → Int32) × (Nat → Int32) × (Nat → Int32) × (Nat → Int32)) (hf : fX11_dig i_town_houses i_real_state_now a_real_state_path i_trial_owed i_trial_slides i_trial_struck i_trial_slid i_trial_state_now i_weather_cycle i_rule_length a_trial_state_snow a_trial_state_path a_trial_state_debt a_trial_owedBy a_real_state_snow a_real_state_debt a_weather_inches a_town_hold a_town_below a_rule_things a_rule_stack a_rule_code p1 p2 p3 = some o9) : CI l E yX11_dig cX11_dig 8 (some .int) 5 [.ref q0, .int p1, .int p2, .int p3] (WX11_dig E q0 q0_text q0_town q0_weather q0_rule q0_acts q0_real q0_trial q0_round q0_nights q0_before q0_history q0_kept q0_keptHouses q0_shortest q0_tracks q0_tally q0_told q0_town_hold q0_town_below q0_town_hay q0_real_state q0_real_owedBy q0_real_state_snow q0_real_state_path q0_real_state_debt q0_trial_state q0_trial_owedBy q0_trial_state_snow q0_trial_state_path q0_trial_state_debt q0_weather_inches q0_rule_code q0_rule_draft q0_rule_stack q0_rule_things i_toldCount i_town_houses i_real_owed i_real_slides i_real_struck i_real_slid i_real_state_now a_real_state_path i_trial_owed i_trial_slides i_trial_struck i_trial_slid i_trial_state_now i_weather_length i_weather_cycle i_rule_length i_rule_drafted a_trial_state_snow a_trial_state_path a_trial_state_debt a_trial_owedBy a_real_state_snow a_real_state_debt a_weather_inches a_town_hold a_town_below a_rule_things a_rule_stack a_rule_code) (WX11_dig E q0 q0_text q0_town q0_weather q0_rule q0_acts q0_real q0_trial q0_round q0_nights q0_before q0_history q0_kept q0_keptHouses q0_shortest q0_tracks q0_tally q0_told q0_town_hold q0_town_below q0_town_hay q0_real_state q0_real_owedBy q0_real_state_snow q0_real_state_path q0_real_state_debt q0_trial_state q0_trial_owedBy q0_trial_state_snow q0_trial_state_path q0_trial_state_debt q0_weather_inches q0_rule_code q0_rule_draft q0_rule_stack q0_rule_things i_toldCount i_town_houses i_real_owed i_real_slides i_real_struck i_real_slid i_real_state_now a_real_state_path o9.2.1 o9.2.2.1 o9.2.2.2.1 o9.2.2.2.2.1 o9.2.2.2.2.2.1 i_weather_length i_weather_cycle i_rule_length i_rule_drafted o9.2.2.2.2.2.2.1 o9.2.2.2.2.2.2.2.1 o9.2.2.2.2.2.2.2.2.1 o9.2.2.2.2.2.2.2.2.2.1 a_real_state_snow a_real_state_debt a_weather_inches a_town_hold a_town_below o9.2.2.2.2.2.2.2.2.2.2.1 o9.2.2.2.2.2.2.2.2.2.2.2 a_rule_code) o9.1 := by
  refine begI (by decide +kernel) (Nat.le_of_ble_eq_true rfl) ?_
  intro p e s m args below meth c A Q C hA hret
  have hx := C.1
  have hb := C.2.1
  have L69 : ∀ (n : Nat) (v4 : Int32) (v5 : Int32) (v6 : Int32) (i_trial_owed : Int32) (i_trial_slides : Int32) (i_trial_struck : Int32) (i_trial_slid : Int32) (i_trial_state_now : Int32) (a_trial_state_snow : Nat → Int32) (a_trial_state_path : Nat → Int32) (a_trial_state_debt : Nat → Int32) (a_trial_owedBy : Nat → Int32) (a_rule_things : Nat → Int32) (a_rule_stack : Nat → Int32) (o : Int32 × Int32 × Int32 × Int32 × Int32 × Int32 × (Nat → Int32) × (Nat → Int32) × (Nat → Int32) × (Nat → Int32) × (Nat → Int32) × (Nat → Int32)), fX11_dig_L69 i_town_houses i_real_state_now a_real_state_path i_weather_cycle i_rule_length a_real_state_snow a_real_state_debt a_weather_inches a_town_hold a_town_below a_rule_code p1 p2 p3 n v4 v5 v6 i_trial_owed i_trial_slides i_trial_struck i_trial_slid i_trial_state_now a_trial_state_snow a_trial_state_path a_trial_state_debt a_trial_owedBy a_rule_things a_rule_stack = some o → (GO p l e 5 s m args below meth c Q E A 8 124 [] [(5, .int o.1)] (WX11_dig E q0 q0_text q0_town q0_weather q0_rule q0_acts q0_real q0_trial q0_round q0_nights q0_before q0_history q0_kept q0_keptHouses q0_shortest q0_tracks q0_tally q0_told q0_town_hold q0_town_below q0_town_hay q0_real_state q0_real_owedBy q0_real_state_snow q0_real_state_path q0_real_state_debt q0_trial_state q0_trial_owedBy q0_trial_state_snow q0_trial_state_path q0_trial_state_debt q0_weather_inches q0_rule_code q0_rule_draft q0_rule_stack q0_rule_things i_toldCount i_town_houses i_real_owed i_real_slides i_real_struck i_real_slid i_real_state_now a_real_state_path o.2.1 o.2.2.1 o.2.2.2.1 o.2.2.2.2.1 o.2.2.2.2.2.1 i_weather_length i_weather_cycle i_rule_length i_rule_drafted o.2.2.2.2.2.2.1 o.2.2.2.2.2.2.2.1 o.2.2.2.2.2.2.2.2.1 o.2.2.2.2.2.2.2.2.2.1 a_real_state_snow a_real_state_debt a_weather_inches a_town_hold a_town_below o.2.2.2.2.2.2.2.2.2.2.1 o.2.2.2.2.2.2.2.2.2.2.2 a_rule_code)) → GO p l e 5 s m args below meth c Q E A 8 69 [] [(0, .ref q0), (1, .int p1), (2, .int p2), (3, .int p3), (4, .int v4), (5, .int v5), (6, .int v6)] (WX11_dig E q0 q0_text q0_town q0_weather q0_rule q0_acts q0_real q0_trial q0_round q0_nights q0_before q0_history q0_kept q0_keptHouses q0_shortest q0_tracks q0_tally q0_told q0_town_hold q0_town_below q0_town_hay q0_real_state q0_real_owedBy q0_real_state_snow q0_real_state_path q0_real_state_debt q0_trial_state q0_trial_owedBy q0_trial_state_snow q0_trial_state_path q0_trial_state_debt q0_weather_inches q0_rule_code q0_rule_draft q0_rule_stack q0_rule_things i_toldCount i_town_houses i_real_owed i_real_slides i_real_struck i_real_slid i_real_state_now a_real_state_path i_trial_owed i_trial_slides i_trial_struck i_trial_slid i_trial_state_now i_weather_length i_weather_cycle i_rule_length i_rule_drafted a_trial_state_snow a_trial_state_path a_trial_state_debt a_trial_owedBy a_real_state_snow a_real_state_debt a_weather_inches a_town_hold a_town_below a_rule_things a_rule_stack a_rule_code) := by
    intro n
    induction n with
    | zero =>
      intro v4 v5 v6 i_trial_owed i_trial_slides i_trial_struck i_trial_slid i_trial_state_now a_trial_state_snow a_trial_state_path a_trial_state_debt a_trial_owedBy a_rule_things a_rule_stack o hf
      have hf : none = some o := hf
      cases hf
    | succ n ih =>
      intro v4 v5 v6 i_trial_owed i_trial_slides i_trial_struck i_trial_slid i_trial_state_now a_trial_state_snow a_trial_state_path a_trial_state_debt a_trial_owedBy a_rule_things a_rule_stack o hf hE
      intro H locs ls hl hP hD hS
      rw [fX11_dig_L69] at hf
      refine lv_iload hx hb dX11_dig_69 (lv_at hl 6 rfl) ?_
      refine lv_sipush (v := 999) hx hb dX11_dig_71 (by decide) ?_
      refine lv_icmp_gt (tgt := 124) hx hb dX11_dig_74 (by decide) (fun c14 => ?_) (fun c14 => ?_)
      · rw [if_pos c14] at hf
        have hf := Option.some.inj hf
        subst hf
        exact hE _ _ _ (lv_sub hl [5] rfl) hP hD hS
      · rw [if_neg c14] at hf
        refine lv_iload hx hb dX11_dig_77 (lv_at hl 5 rfl) ?_
        refine lv_iload hx hb dX11_dig_79 (lv_at hl 4 rfl) ?_
        refine lv_icmp_ge (tgt := 124) hx hb dX11_dig_81 (by decide) (fun c15 => ?_) (fun c15 => ?_)
        · rw [if_pos c15] at hf
          have hf := Option.some.inj hf
          subst hf
          exact hE _ _ _ (lv_sub hl [5] rfl) hP hD hS
        · rw [if_neg c15] at hf
          refine lv_iload hx hb dX11_dig_84 (lv_at hl 5 rfl) ?_
          refine lv_iload hx hb dX11_dig_86 (lv_at hl 4 rfl) ?_
          refine lv_iadd hx hb dX11_dig_88 ?_
          refine lv_iconst (v := 2) hx hb dX11_dig_89 (by decide) ?_
          refine lv_idiv hx hb dX11_dig_90 (by decide) ?_
          refine lv_istore (lv' := [(7, .int ((((v5 + v4)) / 2))), (0, .ref q0), (1, .int p1), (2, .int p2), (3, .int p3), (4, .int v4), (5, .int v5), (6, .int v6)]) hx hb dX11_dig_91 hl (by decide) rfl (fun ls hl => ?_)
          refine lv_aload_n hx hb dX11_dig_93 rfl (lv_at hl 1 rfl) ?_
          refine lv_iload_n hx hb dX11_dig_94 rfl (lv_at hl 2 rfl) ?_
          refine lv_iload hx hb dX11_dig_95 (lv_at hl 0 rfl) ?_
          refine lv_iload_n hx hb dX11_dig_97 rfl (lv_at hl 3 rfl) ?_
          refine lv_iload_n hx hb dX11_dig_98 rfl (lv_at hl 4 rfl) ?_
          obtain ⟨o16, hg17, hf⟩ := bd_some hf
          refine k_VI2 (As := [.int p1, .int ((((v5 + v4)) / 2)), .int p2, .int p3]) C K_RX11_360 (Nat.le_of_ble_eq_true rfl) (Nat.le_of_ble_eq_true rfl) (kX11_staysWithin l E q0 q0_text q0_town q0_weather q0_rule q0_acts q0_real q0_trial q0_round q0_nights q0_before q0_history q0_kept q0_keptHouses q0_shortest q0_tracks q0_tally q0_told q0_real_state q0_real_owedBy q0_trial_state q0_trial_owedBy q0_trial_state_snow q0_trial_state_path q0_trial_state_debt q0_real_state_snow q0_real_state_path q0_real_state_debt q0_weather_inches q0_town_hold q0_town_below q0_town_hay q0_rule_code q0_rule_draft q0_rule_stack q0_rule_things i_toldCount i_real_owed i_real_slides i_real_struck i_real_slid i_trial_owed i_trial_slides i_trial_struck i_trial_slid i_trial_state_now i_real_state_now a_trial_state_snow a_trial_state_path a_trial_state_debt a_trial_owedBy a_real_state_snow a_real_state_path a_real_state_debt i_weather_length i_weather_cycle i_town_houses i_rule_length i_rule_drafted a_weather_inches a_town_hold a_town_below a_rule_things a_rule_stack a_rule_code p1 ((((v5 + v4)) / 2)) p2 p3 o16 hg17) [0, 2, 5, 6, 3, 9, 10, 11, 12, 13, 4, 14, 7, 1, 8, 15, 16, 17, 18, 19, 20] rfl rfl rfl (ci := 11) rfl rfl (q0 := 0) rfl hP hD hS hA hl.1 (Nat.le_of_ble_eq_true rfl) rfl dX11_dig_99 (ws2 := (WX11_dig E q0 q0_text q0_town q0_weather q0_rule q0_acts q0_real q0_trial q0_round q0_nights q0_before q0_history q0_kept q0_keptHouses q0_shortest q0_tracks q0_tally q0_told q0_town_hold q0_town_below q0_town_hay q0_real_state q0_real_owedBy q0_real_state_snow q0_real_state_path q0_real_state_debt q0_trial_state q0_trial_owedBy q0_trial_state_snow q0_trial_state_path q0_trial_state_debt q0_weather_inches q0_rule_code q0_rule_draft q0_rule_stack q0_rule_things i_toldCount i_town_houses i_real_owed i_real_slides i_real_struck i_real_slid i_real_state_now a_real_state_path o16.2.1 o16.2.2.1 o16.2.2.2.1 o16.2.2.2.2.1 o16.2.2.2.2.2.1 i_weather_length i_weather_cycle i_rule_length i_rule_drafted o16.2.2.2.2.2.2.1 o16.2.2.2.2.2.2.2.1 o16.2.2.2.2.2.2.2.2.1 o16.2.2.2.2.2.2.2.2.2.1 a_real_state_snow a_real_state_debt a_weather_inches a_town_hold a_town_below o16.2.2.2.2.2.2.2.2.2.2.1 o16.2.2.2.2.2.2.2.2.2.2.2 a_rule_code)) 21 [] rfl rfl rfl rfl (by decide +kernel) (fun H locs hP hD hS => ?_)
          refine lv_if_eq (tgt := 112) hx hb dX11_dig_102 (by decide) (fun c18 => ?_) (fun c18 => ?_)
          · rw [if_pos c18] at hf
            refine lv_iload hx hb dX11_dig_112 (lv_at hl 0 rfl) ?_
            refine lv_iconst (v := 1) hx hb dX11_dig_114 (by decide) ?_
            refine lv_iadd hx hb dX11_dig_115 ?_
            refine lv_istore (lv' := [(5, .int ((((((v5 + v4)) / 2)) + 1))), (7, .int ((((v5 + v4)) / 2))), (0, .ref q0), (1, .int p1), (2, .int p2), (3, .int p3), (4, .int v4), (6, .int v6)]) hx hb dX11_dig_116 hl (by decide) rfl (fun ls hl => ?_)
            refine lv_iinc (v := (v6 + 1)) (lv' := [(6, .int ((v6 + 1))), (5, .int ((((((v5 + v4)) / 2)) + 1))), (7, .int ((((v5 + v4)) / 2))), (0, .ref q0), (1, .int p1), (2, .int p2), (3, .int p3), (4, .int v4)]) hx hb dX11_dig_118 hl (k := 7) rfl rfl (by decide) rfl (fun ls hl => ?_)
            refine lv_goto (tgt := 69) hx hb dX11_dig_121 (by decide) ?_
            exact ih v4 ((((((v5 + v4)) / 2)) + 1)) ((v6 + 1)) o16.2.1 o16.2.2.1 o16.2.2.2.1 o16.2.2.2.2.1 o16.2.2.2.2.2.1 o16.2.2.2.2.2.2.1 o16.2.2.2.2.2.2.2.1 o16.2.2.2.2.2.2.2.2.1 o16.2.2.2.2.2.2.2.2.2.1 o16.2.2.2.2.2.2.2.2.2.2.1 o16.2.2.2.2.2.2.2.2.2.2.2 _ hf hE _ _ _ (lv_sub hl [3, 4, 5, 6, 7, 1, 0] rfl) hP hD hS
          · rw [if_neg c18] at hf
            refine lv_iload hx hb dX11_dig_105 (lv_at hl 0 rfl) ?_
            refine lv_istore (lv' := [(4, .int ((((v5 + v4)) / 2))), (7, .int ((((v5 + v4)) / 2))), (0, .ref q0), (1, .int p1), (2, .int p2), (3, .int p3), (5, .int v5), (6, .int v6)]) hx hb dX11_dig_107 hl (by decide) rfl (fun ls hl => ?_)
            refine lv_goto (tgt := 118) hx hb dX11_dig_109 (by decide) ?_
            refine lv_iinc (v := (v6 + 1)) (lv' := [(6, .int ((v6 + 1))), (4, .int ((((v5 + v4)) / 2))), (7, .int ((((v5 + v4)) / 2))), (0, .ref q0), (1, .int p1), (2, .int p2), (3, .int p3), (5, .int v5)]) hx hb dX11_dig_118 hl (k := 7) rfl rfl (by decide) rfl (fun ls hl => ?_)
            refine lv_goto (tgt := 69) hx hb dX11_dig_121 (by decide) ?_
            exact ih ((((v5 + v4)) / 2)) v5 ((v6 + 1)) o16.2.1 o16.2.2.1 o16.2.2.2.1 o16.2.2.2.2.1 o16.2.2.2.2.2.1 o16.2.2.2.2.2.2.1 o16.2.2.2.2.2.2.2.1 o16.2.2.2.2.2.2.2.2.1 o16.2.2.2.2.2.2.2.2.2.1 o16.2.2.2.2.2.2.2.2.2.2.1 o16.2.2.2.2.2.2.2.2.2.2.2 _ hf hE _ _ _ (lv_sub hl [3, 4, 5, 6, 1, 7, 0] rfl) hP hD hS
  intro H locs ls hl hP hD hS
  have hl : lv_has ls 8 [(0, .ref q0), (1, .int p1), (2, .int p2), (3, .int p3)] := hl
  unfold fX11_dig at hf
  refine lv_aload_n hx hb dX11_dig_0 rfl (lv_at hl 0 rfl) ?_
  refine gf_RX11_19 C hP 0 rfl rfl dX11_dig_1 ?_
  refine lv_iload_n hx hb dX11_dig_4 rfl (lv_at hl 1 rfl) ?_
  obtain ⟨o1, hg2, hf⟩ := bd_some hf
  refine k_VI2 (As := [.int p1]) C K_RX11_139 (Nat.le_of_ble_eq_true rfl) (Nat.le_of_ble_eq_true rfl) (kX7_has l E q0_town q0_town_hold q0_town_below q0_town_hay i_town_houses p1 o1 hg2) [1] rfl rfl rfl (ci := 7) rfl rfl (q0 := 0) rfl hP hD hS hA hl.1 (Nat.le_of_ble_eq_true rfl) rfl dX11_dig_5 (ws2 := (WX11_dig E q0 q0_text q0_town q0_weather q0_rule q0_acts q0_real q0_trial q0_round q0_nights q0_before q0_history q0_kept q0_keptHouses q0_shortest q0_tracks q0_tally q0_told q0_town_hold q0_town_below q0_town_hay q0_real_state q0_real_owedBy q0_real_state_snow q0_real_state_path q0_real_state_debt q0_trial_state q0_trial_owedBy q0_trial_state_snow q0_trial_state_path q0_trial_state_debt q0_weather_inches q0_rule_code q0_rule_draft q0_rule_stack q0_rule_things i_toldCount i_town_houses i_real_owed i_real_slides i_real_struck i_real_slid i_real_state_now a_real_state_path i_trial_owed i_trial_slides i_trial_struck i_trial_slid i_trial_state_now i_weather_length i_weather_cycle i_rule_length i_rule_drafted a_trial_state_snow a_trial_state_path a_trial_state_debt a_trial_owedBy a_real_state_snow a_real_state_debt a_weather_inches a_town_hold a_town_below a_rule_things a_rule_stack a_rule_code)) 21 [0, 2, 3, 4, 5, 6, 7, 8, 9, 10, 11, 12, 13, 14, 15, 16, 17, 18, 19, 20] rfl rfl rfl rfl (by decide +kernel) (fun H locs hP hD hS => ?_)
  refine lv_if_eq (tgt := 32) hx hb dX11_dig_8 (by decide) (fun c3 => ?_) (fun c3 => ?_)
  · rw [if_pos c3] at hf
    refine lv_iconst (v := (-1)) hx hb dX11_dig_32 (by decide) ?_
    have hj0 := Option.some.inj hf
    subst hj0
    exact hret _ _ _ _ dX11_dig_33 rfl hP hD hS
  · rw [if_neg c3] at hf
    refine lv_iload_n hx hb dX11_dig_11 rfl (lv_at hl 2 rfl) ?_
    refine lv_iconst (v := 0) hx hb dX11_dig_12 (by decide) ?_
    refine lv_sipush (v := 999) hx hb dX11_dig_13 (by decide) ?_
    obtain ⟨o4, hg5, hf⟩ := bd_some hf
    refine k_SI2 (As := [.int p2, .int 0, .int 999]) C K_RX11_128 (Nat.le_of_ble_eq_true rfl) (Nat.le_of_ble_eq_true rfl) (kX11_isWithin l E p2 0 999 o4 hg5) [] rfl rfl rfl  hP hD hS hA hl.1 (Nat.le_of_ble_eq_true rfl) rfl dX11_dig_16 (ws2 := (WX11_dig E q0 q0_text q0_town q0_weather q0_rule q0_acts q0_real q0_trial q0_round q0_nights q0_before q0_history q0_kept q0_keptHouses q0_shortest q0_tracks q0_tally q0_told q0_town_hold q0_town_below q0_town_hay q0_real_state q0_real_owedBy q0_real_state_snow q0_real_state_path q0_real_state_debt q0_trial_state q0_trial_owedBy q0_trial_state_snow q0_trial_state_path q0_trial_state_debt q0_weather_inches q0_rule_code q0_rule_draft q0_rule_stack q0_rule_things i_toldCount i_town_houses i_real_owed i_real_slides i_real_struck i_real_slid i_real_state_now a_real_state_path i_trial_owed i_trial_slides i_trial_struck i_trial_slid i_trial_state_now i_weather_length i_weather_cycle i_rule_length i_rule_drafted a_trial_state_snow a_trial_state_path a_trial_state_debt a_trial_owedBy a_real_state_snow a_real_state_debt a_weather_inches a_town_hold a_town_below a_rule_things a_rule_stack a_rule_code)) 21 [0, 1, 2, 3, 4, 5, 6, 7, 8, 9, 10, 11, 12, 13, 14, 15, 16, 17, 18, 19, 20] rfl rfl rfl rfl (by decide +kernel) (fun H locs hP hD hS => ?_)
    refine lv_if_eq (tgt := 32) hx hb dX11_dig_19 (by decide) (fun c6 => ?_) (fun c6 => ?_)
    · rw [if_pos c6] at hf
      refine lv_iconst (v := (-1)) hx hb dX11_dig_32 (by decide) ?_
      have hj0 := Option.some.inj hf
      subst hj0
      exact hret _ _ _ _ dX11_dig_33 rfl hP hD hS
    · rw [if_neg c6] at hf
      refine lv_iload_n hx hb dX11_dig_22 rfl (lv_at hl 3 rfl) ?_
      refine lv_iconst (v := 0) hx hb dX11_dig_23 (by decide) ?_
      refine lv_bipush (v := 60) hx hb dX11_dig_24 (by decide) ?_
      obtain ⟨o7, hg8, hf⟩ := bd_some hf
      refine k_SI2 (As := [.int p3, .int 0, .int 60]) C K_RX11_128 (Nat.le_of_ble_eq_true rfl) (Nat.le_of_ble_eq_true rfl) (kX11_isWithin l E p3 0 60 o7 hg8) [] rfl rfl rfl  hP hD hS hA hl.1 (Nat.le_of_ble_eq_true rfl) rfl dX11_dig_26 (ws2 := (WX11_dig E q0 q0_text q0_town q0_weather q0_rule q0_acts q0_real q0_trial q0_round q0_nights q0_before q0_history q0_kept q0_keptHouses q0_shortest q0_tracks q0_tally q0_told q0_town_hold q0_town_below q0_town_hay q0_real_state q0_real_owedBy q0_real_state_snow q0_real_state_path q0_real_state_debt q0_trial_state q0_trial_owedBy q0_trial_state_snow q0_trial_state_path q0_trial_state_debt q0_weather_inches q0_rule_code q0_rule_draft q0_rule_stack q0_rule_things i_toldCount i_town_houses i_real_owed i_real_slides i_real_struck i_real_slid i_real_state_now a_real_state_path i_trial_owed i_trial_slides i_trial_struck i_trial_slid i_trial_state_now i_weather_length i_weather_cycle i_rule_length i_rule_drafted a_trial_state_snow a_trial_state_path a_trial_state_debt a_trial_owedBy a_real_state_snow a_real_state_debt a_weather_inches a_town_hold a_town_below a_rule_things a_rule_stack a_rule_code)) 21 [0, 1, 2, 3, 4, 5, 6, 7, 8, 9, 10, 11, 12, 13, 14, 15, 16, 17, 18, 19, 20] rfl rfl rfl rfl (by decide +kernel) (fun H locs hP hD hS => ?_)
      refine lv_if_ne (tgt := 34) hx hb dX11_dig_29 (by decide) (fun c9 => ?_) (fun c9 => ?_)
      · rw [if_neg c9] at hf
        refine lv_aload_n hx hb dX11_dig_34 rfl (lv_at hl 0 rfl) ?_
        refine gf_RX11_49 C hP 0 rfl rfl dX11_dig_35 ?_
        refine gf_RX11_148 C hP 2 rfl rfl dX11_dig_38 ?_
        refine gf_RX11_154 C hP 3 rfl rfl dX11_dig_41 ?_
        refine lv_iload_n hx hb dX11_dig_44 rfl (lv_at hl 1 rfl) ?_
        obtain ⟨g10, hf⟩ := gd_some hf
        refine va_iald hx hb C.2.2.2.2.2.1 hP 4 0 rfl rfl (vin_in g10) dX11_dig_45 ?_
        refine lv_istore (lv' := [(4, .int ((a_real_state_path (p1 : Int32).toNatClampNeg))), (0, .ref q0), (1, .int p1), (2, .int p2), (3, .int p3)]) hx hb dX11_dig_46 hl (by decide) rfl (fun ls hl => ?_)
        refine lv_aload_n hx hb dX11_dig_48 rfl (lv_at hl 1 rfl) ?_
        refine lv_iload_n hx hb dX11_dig_49 rfl (lv_at hl 2 rfl) ?_
        refine lv_iload hx hb dX11_dig_50 (lv_at hl 0 rfl) ?_
        refine lv_iload_n hx hb dX11_dig_52 rfl (lv_at hl 3 rfl) ?_
        refine lv_iload_n hx hb dX11_dig_53 rfl (lv_at hl 4 rfl) ?_
        obtain ⟨o11, hg12, hf⟩ := bd_some hf
        refine k_VI2 (As := [.int p1, .int ((a_real_state_path (p1 : Int32).toNatClampNeg)), .int p2, .int p3]) C K_RX11_360 (Nat.le_of_ble_eq_true rfl) (Nat.le_of_ble_eq_true rfl) (kX11_staysWithin l E q0 q0_text q0_town q0_weather q0_rule q0_acts q0_real q0_trial q0_round q0_nights q0_before q0_history q0_kept q0_keptHouses q0_shortest q0_tracks q0_tally q0_told q0_real_state q0_real_owedBy q0_trial_state q0_trial_owedBy q0_trial_state_snow q0_trial_state_path q0_trial_state_debt q0_real_state_snow q0_real_state_path q0_real_state_debt q0_weather_inches q0_town_hold q0_town_below q0_town_hay q0_rule_code q0_rule_draft q0_rule_stack q0_rule_things i_toldCount i_real_owed i_real_slides i_real_struck i_real_slid i_trial_owed i_trial_slides i_trial_struck i_trial_slid i_trial_state_now i_real_state_now a_trial_state_snow a_trial_state_path a_trial_state_debt a_trial_owedBy a_real_state_snow a_real_state_path a_real_state_debt i_weather_length i_weather_cycle i_town_houses i_rule_length i_rule_drafted a_weather_inches a_town_hold a_town_below a_rule_things a_rule_stack a_rule_code p1 ((a_real_state_path (p1 : Int32).toNatClampNeg)) p2 p3 o11 hg12) [0, 2, 5, 6, 3, 9, 10, 11, 12, 13, 4, 14, 7, 1, 8, 15, 16, 17, 18, 19, 20] rfl rfl rfl (ci := 11) rfl rfl (q0 := 0) rfl hP hD hS hA hl.1 (Nat.le_of_ble_eq_true rfl) rfl dX11_dig_54 (ws2 := (WX11_dig E q0 q0_text q0_town q0_weather q0_rule q0_acts q0_real q0_trial q0_round q0_nights q0_before q0_history q0_kept q0_keptHouses q0_shortest q0_tracks q0_tally q0_told q0_town_hold q0_town_below q0_town_hay q0_real_state q0_real_owedBy q0_real_state_snow q0_real_state_path q0_real_state_debt q0_trial_state q0_trial_owedBy q0_trial_state_snow q0_trial_state_path q0_trial_state_debt q0_weather_inches q0_rule_code q0_rule_draft q0_rule_stack q0_rule_things i_toldCount i_town_houses i_real_owed i_real_slides i_real_struck i_real_slid i_real_state_now a_real_state_path o11.2.1 o11.2.2.1 o11.2.2.2.1 o11.2.2.2.2.1 o11.2.2.2.2.2.1 i_weather_length i_weather_cycle i_rule_length i_rule_drafted o11.2.2.2.2.2.2.1 o11.2.2.2.2.2.2.2.1 o11.2.2.2.2.2.2.2.2.1 o11.2.2.2.2.2.2.2.2.2.1 a_real_state_snow a_real_state_debt a_weather_inches a_town_hold a_town_below o11.2.2.2.2.2.2.2.2.2.2.1 o11.2.2.2.2.2.2.2.2.2.2.2 a_rule_code)) 21 [] rfl rfl rfl rfl (by decide +kernel) (fun H locs hP hD hS => ?_)
        refine lv_if_ne (tgt := 63) hx hb dX11_dig_57 (by decide) (fun c13 => ?_) (fun c13 => ?_)
        · rw [if_neg c13] at hf
          refine lv_iconst (v := 0) hx hb dX11_dig_63 (by decide) ?_
          refine lv_istore (lv' := [(5, .int 0), (4, .int ((a_real_state_path (p1 : Int32).toNatClampNeg))), (0, .ref q0), (1, .int p1), (2, .int p2), (3, .int p3)]) hx hb dX11_dig_64 hl (by decide) rfl (fun ls hl => ?_)
          refine lv_iconst (v := 0) hx hb dX11_dig_66 (by decide) ?_
          refine lv_istore (lv' := [(6, .int 0), (5, .int 0), (4, .int ((a_real_state_path (p1 : Int32).toNatClampNeg))), (0, .ref q0), (1, .int p1), (2, .int p2), (3, .int p3)]) hx hb dX11_dig_67 hl (by decide) rfl (fun ls hl => ?_)
          obtain ⟨o19, hg20, hf⟩ := bd_some hf
          refine L69 FU ((a_real_state_path (p1 : Int32).toNatClampNeg)) 0 0 o11.2.1 o11.2.2.1 o11.2.2.2.1 o11.2.2.2.2.1 o11.2.2.2.2.2.1 o11.2.2.2.2.2.2.1 o11.2.2.2.2.2.2.2.1 o11.2.2.2.2.2.2.2.2.1 o11.2.2.2.2.2.2.2.2.2.1 o11.2.2.2.2.2.2.2.2.2.2.1 o11.2.2.2.2.2.2.2.2.2.2.2 o19 hg20 ?_ _ _ _ (lv_sub hl [3, 4, 5, 6, 2, 1, 0] rfl) hP hD hS
          intro H locs ls hl hP hD hS
          refine lv_iload hx hb dX11_dig_124 (lv_at hl 0 rfl) ?_
          have hj0 := Option.some.inj hf
          subst hj0
          exact hret _ _ _ _ dX11_dig_126 rfl hP hD hS
        · rw [if_pos c13] at hf
          refine lv_bipush (v := (-2)) hx hb dX11_dig_60 (by decide) ?_
          have hj0 := Option.some.inj hf
          subst hj0
          exact hret _ _ _ _ dX11_dig_62 rfl hP hD hS
      · rw [if_pos c9] at hf
        refine lv_iconst (v := (-1)) hx hb dX11_dig_32 (by decide) ?_
        have hj0 := Option.some.inj hf
        subst hj0
        exact hret _ _ _ _ dX11_dig_33 rfl hP hD hS
theorem dX11_bare_0 : decode cX11_bare 0 = .ok (.aload_n 0, 1) := by decide +kernel
theorem dX11_bare_1 : decode cX11_bare 1 = .ok (.getfield 19, 3) := by decide +kernel
theorem dX11_bare_4 : decode cX11_bare 4 = .ok (.iload_n 1, 1) := by decide +kernel
theorem dX11_bare_5 : decode cX11_bare 5 = .ok (.invokevirtual 139, 3) := by decide +kernel
theorem dX11_bare_8 : decode cX11_bare 8 = .ok (.ifCond .eq 13, 3) := by decide +kernel
theorem dX11_bare_11 : decode cX11_bare 11 = .ok (.iload_n 2, 1) := by decide +kernel
theorem dX11_bare_12 : decode cX11_bare 12 = .ok (.iconst 0, 1) := by decide +kernel
theorem dX11_bare_13 : decode cX11_bare 13 = .ok (.bipush 60, 2) := by decide +kernel
theorem dX11_bare_15 : decode cX11_bare 15 = .ok (.invokestatic 128, 3) := by decide +kernel
theorem dX11_bare_18 : decode cX11_bare 18 = .ok (.ifCond .ne 11, 3) := by decide +kernel
theorem dX11_bare_21 : decode cX11_bare 21 = .ok (.new 142, 3) := by decide +kernel
theorem dX11_bare_24 : decode cX11_bare 24 = .ok (.dup, 1) := by decide +kernel
theorem dX11_bare_25 : decode cX11_bare 25 = .ok (.invokespecial 144, 3) := by decide +kernel
theorem dX11_bare_28 : decode cX11_bare 28 = .ok (.athrow, 1) := by decide +kernel
theorem dX11_bare_29 : decode cX11_bare 29 = .ok (.aload_n 0, 1) := by decide +kernel
theorem dX11_bare_30 : decode cX11_bare 30 = .ok (.getfield 53, 3) := by decide +kernel
theorem dX11_bare_33 : decode cX11_bare 33 = .ok (.aload_n 0, 1) := by decide +kernel
theorem dX11_bare_34 : decode cX11_bare 34 = .ok (.getfield 49, 3) := by decide +kernel
theorem dX11_bare_37 : decode cX11_bare 37 = .ok (.getfield 148, 3) := by decide +kernel
theorem dX11_bare_40 : decode cX11_bare 40 = .ok (.iload_n 2, 1) := by decide +kernel
theorem dX11_bare_41 : decode cX11_bare 41 = .ok (.invokevirtual 331, 3) := by decide +kernel
theorem dX11_bare_44 : decode cX11_bare 44 = .ok (.aload_n 0, 1) := by decide +kernel
theorem dX11_bare_45 : decode cX11_bare 45 = .ok (.getfield 53, 3) := by decide +kernel
theorem dX11_bare_48 : decode cX11_bare 48 = .ok (.getfield 215, 3) := by decide +kernel
theorem dX11_bare_51 : decode cX11_bare 51 = .ok (.istore_n 3, 1) := by decide +kernel
theorem dX11_bare_52 : decode cX11_bare 52 = .ok (.aload_n 0, 1) := by decide +kernel
theorem dX11_bare_53 : decode cX11_bare 53 = .ok (.getfield 53, 3) := by decide +kernel
theorem dX11_bare_56 : decode cX11_bare 56 = .ok (.aload_n 0, 1) := by decide +kernel
theorem dX11_bare_57 : decode cX11_bare 57 = .ok (.getfield 49, 3) := by decide +kernel
theorem dX11_bare_60 : decode cX11_bare 60 = .ok (.getfield 148, 3) := by decide +kernel
theorem dX11_bare_63 : decode cX11_bare 63 = .ok (.invokevirtual 337, 3) := by decide +kernel
theorem dX11_bare_66 : decode cX11_bare 66 = .ok (.aload_n 0, 1) := by decide +kernel
theorem dX11_bare_67 : decode cX11_bare 67 = .ok (.getfield 53, 3) := by decide +kernel
theorem dX11_bare_70 : decode cX11_bare 70 = .ok (.getfield 148, 3) := by decide +kernel
theorem dX11_bare_73 : decode cX11_bare 73 = .ok (.getfield 151, 3) := by decide +kernel
theorem dX11_bare_76 : decode cX11_bare 76 = .ok (.iconst 2, 1) := by decide +kernel
theorem dX11_bare_77 : decode cX11_bare 77 = .ok (.iload_n 1, 1) := by decide +kernel
theorem dX11_bare_78 : decode cX11_bare 78 = .ok (.imul, 1) := by decide +kernel
theorem dX11_bare_79 : decode cX11_bare 79 = .ok (.iconst 0, 1) := by decide +kernel
theorem dX11_bare_80 : decode cX11_bare 80 = .ok (.iastore, 1) := by decide +kernel
theorem dX11_bare_81 : decode cX11_bare 81 = .ok (.aload_n 0, 1) := by decide +kernel
theorem dX11_bare_82 : decode cX11_bare 82 = .ok (.getfield 53, 3) := by decide +kernel
theorem dX11_bare_85 : decode cX11_bare 85 = .ok (.getfield 148, 3) := by decide +kernel
theorem dX11_bare_88 : decode cX11_bare 88 = .ok (.getfield 151, 3) := by decide +kernel
theorem dX11_bare_91 : decode cX11_bare 91 = .ok (.iconst 2, 1) := by decide +kernel
theorem dX11_bare_92 : decode cX11_bare 92 = .ok (.iload_n 1, 1) := by decide +kernel
theorem dX11_bare_93 : decode cX11_bare 93 = .ok (.imul, 1) := by decide +kernel
theorem dX11_bare_94 : decode cX11_bare 94 = .ok (.iconst 1, 1) := by decide +kernel
theorem dX11_bare_95 : decode cX11_bare 95 = .ok (.iadd, 1) := by decide +kernel
theorem dX11_bare_96 : decode cX11_bare 96 = .ok (.iconst 0, 1) := by decide +kernel
theorem dX11_bare_97 : decode cX11_bare 97 = .ok (.iastore, 1) := by decide +kernel
theorem dX11_bare_98 : decode cX11_bare 98 = .ok (.aload_n 0, 1) := by decide +kernel
theorem dX11_bare_99 : decode cX11_bare 99 = .ok (.getfield 53, 3) := by decide +kernel
theorem dX11_bare_102 : decode cX11_bare 102 = .ok (.iload_n 2, 1) := by decide +kernel
theorem dX11_bare_103 : decode cX11_bare 103 = .ok (.invokevirtual 211, 3) := by decide +kernel
theorem dX11_bare_106 : decode cX11_bare 106 = .ok (.iload_n 3, 1) := by decide +kernel
theorem dX11_bare_107 : decode cX11_bare 107 = .ok (.aload_n 0, 1) := by decide +kernel
theorem dX11_bare_108 : decode cX11_bare 108 = .ok (.getfield 53, 3) := by decide +kernel
theorem dX11_bare_111 : decode cX11_bare 111 = .ok (.getfield 215, 3) := by decide +kernel
theorem dX11_bare_114 : decode cX11_bare 114 = .ok (.isub, 1) := by decide +kernel
theorem dX11_bare_115 : decode cX11_bare 115 = .ok (.ireturn, 1) := by decide +kernel
def WX11_bare (E : ENV) (q0 : Nat) (q0_text : Nat) (q0_town : Nat) (q0_weather : Nat) (q0_rule : Nat) (q0_acts : Nat) (q0_real : Nat) (q0_trial : Nat) (q0_round : Nat) (q0_nights : Nat) (q0_before : Nat) (q0_history : Nat) (q0_kept : Nat) (q0_keptHouses : Nat) (q0_shortest : Nat) (q0_tracks : Nat) (q0_tally : Nat) (q0_told : Nat) (q0_town_hold : Nat) (q0_town_below : Nat) (q0_town_hay : Nat) (q0_real_state : Nat) (q0_real_owedBy : Nat) (q0_trial_state : Nat) (q0_trial_owedBy : Nat) (q0_trial_state_snow : Nat) (q0_trial_state_path : Nat) (q0_trial_state_debt : Nat) (q0_weather_inches : Nat) (q0_rule_code : Nat) (q0_rule_draft : Nat) (q0_rule_stack : Nat) (q0_rule_things : Nat) (q0_real_state_snow : Nat) (q0_real_state_path : Nat) (q0_real_state_debt : Nat) (i_toldCount : Int32) (i_town_houses : Int32) (i_real_owed : Int32) (i_real_slides : Int32) (i_real_struck : Int32) (i_real_slid : Int32) (i_trial_owed : Int32) (i_trial_slides : Int32) (i_trial_struck : Int32) (i_trial_slid : Int32) (i_trial_state_now : Int32) (i_weather_length : Int32) (i_weather_cycle : Int32) (i_rule_length : Int32) (i_rule_drafted : Int32) (i_real_state_now : Int32) (a_trial_state_snow : Nat → Int32) (a_trial_state_path : Nat → Int32) (a_trial_state_debt : Nat → Int32) (a_trial_owedBy : Nat → Int32) (a_weather_inches : Nat → Int32) (a_town_hold : Nat → Int32) (a_town_below : Nat → Int32) (a_rule_things : Nat → Int32) (a_rule_stack : Nat → Int32) (a_rule_code : Nat → Int32) (a_real_state_snow : Nat → Int32) (a_real_state_path : Nat → Int32) (a_real_state_debt : Nat → Int32) : va_W := [(q0, .inr (11, [.ref q0_text, .ref q0_town, .ref q0_weather, .ref q0_rule, .ref q0_acts, .ref q0_real, .ref q0_trial, .ref q0_round, .ref q0_nights, .ref q0_before, .ref q0_history, .ref q0_kept, .ref q0_keptHouses, .ref q0_shortest, .ref q0_tracks, .ref q0_tally, .ref q0_told, .int i_toldCount])), (q0_town, .inr (7, [.ref q0_town_hold, .ref q0_town_below, .ref q0_town_hay, .int i_town_houses])), (q0_real, .inr (9, [.ref q0_town, .ref q0_weather, .ref q0_rule, .ref q0_real_state, .ref q0_real_owedBy, .int i_real_owed, .int i_real_slides, .int i_real_struck, .int i_real_slid])), (q0_trial, .inr (9, [.ref q0_town, .ref q0_weather, .ref q0_rule, .ref q0_trial_state, .ref q0_trial_owedBy, .int i_trial_owed, .int i_trial_slides, .int i_trial_struck, .int i_trial_slid])), (q0_trial_state, .inr (5, [.ref q0_trial_state_snow, .ref q0_trial_state_path, .ref q0_trial_state_debt, .int i_trial_state_now])), (q0_weather, .inr (10, [.ref q0_weather_inches, .int i_weather_length, .int i_weather_cycle])), (q0_rule, .inr (4, [.ref q0_rule_code, .ref q0_rule_draft, .ref q0_rule_stack, .ref q0_rule_things, .int i_rule_length, .int i_rule_drafted])), (q0_real_state, .inr (5, [.ref q0_real_state_snow, .ref q0_real_state_path, .ref q0_real_state_debt, .int i_real_state_now])), (q0_trial_state_snow, .inl (E.2.1, 14, .inl a_trial_state_snow)), (q0_trial_state_path, .inl (E.2.1, 7, .inl a_trial_state_path)), (q0_trial_state_debt, .inl (E.2.1, 49, .inl a_trial_state_debt)), (q0_trial_owedBy, .inl (E.2.1, 7, .inl a_trial_owedBy)), (q0_weather_inches, .inl (E.2.1, 40, .inl a_weather_inches)), (q0_town_hold, .inl (E.2.1, 7, .inl a_town_hold)), (q0_town_below, .inl (E.2.1, 14, .inl a_town_below)), (q0_rule_things, .inl (E.2.1, 8, .inl a_rule_things)), (q0_rule_stack, .inl (E.2.1, 40, .inl a_rule_stack)), (q0_rule_code, .inl (E.2.1, 40, .inl a_rule_code)), (q0_real_state_snow, .inl (E.2.1, 14, .inl a_real_state_snow)), (q0_real_state_path, .inl (E.2.1, 7, .inl a_real_state_path)), (q0_real_state_debt, .inl (E.2.1, 49, .inl a_real_state_debt))]
set_option maxHeartbeats 4000000 in
set_option maxRecDepth 20000 in
theorem kX11_bare (l : Launch) (E : ENV) (q0 : Nat) (q0_text : Nat) (q0_town : Nat) (q0_weather : Nat) (q0_rule : Nat) (q0_acts : Nat) (q0_real : Nat) (q0_trial : Nat) (q0_round : Nat) (q0_nights : Nat) (q0_before : Nat) (q0_history : Nat) (q0_kept : Nat) (q0_keptHouses : Nat) (q0_shortest : Nat) (q0_tracks : Nat) (q0_tally : Nat) (q0_told : Nat) (q0_town_hold : Nat) (q0_town_below : Nat) (q0_town_hay : Nat) (q0_real_state : Nat) (q0_real_owedBy : Nat) (q0_trial_state : Nat) (q0_trial_owedBy : Nat) (q0_trial_state_snow : Nat) (q0_trial_state_path : Nat) (q0_trial_state_debt : Nat) (q0_weather_inches : Nat) (q0_rule_code : Nat) (q0_rule_draft : Nat) (q0_rule_stack : Nat) (q0_rule_things : Nat) (q0_real_state_snow : Nat) (q0_real_state_path : Nat) (q0_real_state_debt : Nat) (i_toldCount : Int32) (i_town_houses : Int32) (i_real_owed : Int32) (i_real_slides : Int32) (i_real_struck : Int32) (i_real_slid : Int32) (i_trial_owed : Int32) (i_trial_slides : Int32) (i_trial_struck : Int32) (i_trial_slid : Int32) (i_trial_state_now : Int32) (i_weather_length : Int32) (i_weather_cycle : Int32) (i_rule_length : Int32) (i_rule_drafted : Int32) (i_real_state_now : Int32) (a_trial_state_snow : Nat → Int32) (a_trial_state_path : Nat → Int32) (a_trial_state_debt : Nat → Int32) (a_trial_owedBy : Nat → Int32) (a_weather_inches : Nat → Int32) (a_town_hold : Nat → Int32) (a_town_below : Nat → Int32) (a_rule_things : Nat → Int32) (a_rule_stack : Nat → Int32) (a_rule_code : Nat → Int32) (a_real_state_snow : Nat → Int32) (a_real_state_path : Nat → Int32) (a_real_state_debt : Nat → Int32) (p1 : Int32) (p2 : Int32) (o9 : Int32 × Int32 × Int32 × Int32 × Int32 × Int32 × (Nat → Int32) × (Nat → Int32) × (Nat → Int32) × (Nat → Int32) × (Nat → Int32) × (Nat → Int32)) (hf : fX11_bare i_town_houses i_trial_owed i_trial_slides i_trial_struck i_trial_slid i_trial_state_now i_weather_cycle i_rule_length i_real_state_now a_trial_state_snow a_trial_state_path a_trial_state_debt a_trial_owedBy a_weather_inches a_town_hold a_town_below a_rule_things a_rule_stack a_rule_code a_real_state_snow a_real_state_path a_real_state_debt p1 p2 = some o9) : CI l E yX11_bare cX11_bare 4 (some .int) 5 [.ref q0, .int p1, .int p2] (WX11_bare E q0 q0_text q0_town q0_weather q0_rule q0_acts q0_real q0_trial q0_round q0_nights q0_before q0_history q0_kept q0_keptHouses q0_shortest q0_tracks q0_tally q0_told q0_town_hold q0_town_below q0_town_hay q0_real_state q0_real_owedBy q0_trial_state q0_trial_owedBy q0_trial_state_snow q0_trial_state_path q0_trial_state_debt q0_weather_inches q0_rule_code q0_rule_draft q0_rule_stack q0_rule_things q0_real_state_snow q0_real_state_path q0_real_state_debt i_toldCount i_town_houses i_real_owed i_real_slides i_real_struck i_real_slid i_trial_owed i_trial_slides i_trial_struck i_trial_slid i_trial_state_now i_weather_length i_weather_cycle i_rule_length i_rule_drafted i_real_state_now a_trial_state_snow a_trial_state_path a_trial_state_debt a_trial_owedBy a_weather_inches a_town_hold a_town_below a_rule_things a_rule_stack a_rule_code a_real_state_snow a_real_state_path a_real_state_debt) (WX11_bare E q0 q0_text q0_town q0_weather q0_rule q0_acts q0_real q0_trial q0_round q0_nights q0_before q0_history q0_kept q0_keptHouses q0_shortest q0_tracks q0_tally q0_told q0_town_hold q0_town_below q0_town_hay q0_real_state q0_real_owedBy q0_trial_state q0_trial_owedBy q0_trial_state_snow q0_trial_state_path q0_trial_state_debt q0_weather_inches q0_rule_code q0_rule_draft q0_rule_stack q0_rule_things q0_real_state_snow q0_real_state_path q0_real_state_debt i_toldCount i_town_houses i_real_owed i_real_slides i_real_struck i_real_slid o9.2.1 o9.2.2.1 o9.2.2.2.1 o9.2.2.2.2.1 o9.2.2.2.2.2.1 i_weather_length i_weather_cycle i_rule_length i_rule_drafted i_real_state_now o9.2.2.2.2.2.2.1 o9.2.2.2.2.2.2.2.1 o9.2.2.2.2.2.2.2.2.1 o9.2.2.2.2.2.2.2.2.2.1 a_weather_inches a_town_hold a_town_below o9.2.2.2.2.2.2.2.2.2.2.1 o9.2.2.2.2.2.2.2.2.2.2.2 a_rule_code a_real_state_snow a_real_state_path a_real_state_debt) o9.1 := by
  refine begI (by decide +kernel) (Nat.le_of_ble_eq_true rfl) ?_
  intro p e s m args below meth c A Q C hA hret
  have hx := C.1
  have hb := C.2.1
  intro H locs ls hl hP hD hS
  have hl : lv_has ls 4 [(0, .ref q0), (1, .int p1), (2, .int p2)] := hl
  unfold fX11_bare at hf
  refine lv_aload_n hx hb dX11_bare_0 rfl (lv_at hl 0 rfl) ?_
  refine gf_RX11_19 C hP 0 rfl rfl dX11_bare_1 ?_
  refine lv_iload_n hx hb dX11_bare_4 rfl (lv_at hl 1 rfl) ?_
  obtain ⟨o1, hg2, hf⟩ := bd_some hf
  refine k_VI2 (As := [.int p1]) C K_RX11_139 (Nat.le_of_ble_eq_true rfl) (Nat.le_of_ble_eq_true rfl) (kX7_has l E q0_town q0_town_hold q0_town_below q0_town_hay i_town_houses p1 o1 hg2) [1] rfl rfl rfl (ci := 7) rfl rfl (q0 := 0) rfl hP hD hS hA hl.1 (Nat.le_of_ble_eq_true rfl) rfl dX11_bare_5 (ws2 := (WX11_bare E q0 q0_text q0_town q0_weather q0_rule q0_acts q0_real q0_trial q0_round q0_nights q0_before q0_history q0_kept q0_keptHouses q0_shortest q0_tracks q0_tally q0_told q0_town_hold q0_town_below q0_town_hay q0_real_state q0_real_owedBy q0_trial_state q0_trial_owedBy q0_trial_state_snow q0_trial_state_path q0_trial_state_debt q0_weather_inches q0_rule_code q0_rule_draft q0_rule_stack q0_rule_things q0_real_state_snow q0_real_state_path q0_real_state_debt i_toldCount i_town_houses i_real_owed i_real_slides i_real_struck i_real_slid i_trial_owed i_trial_slides i_trial_struck i_trial_slid i_trial_state_now i_weather_length i_weather_cycle i_rule_length i_rule_drafted i_real_state_now a_trial_state_snow a_trial_state_path a_trial_state_debt a_trial_owedBy a_weather_inches a_town_hold a_town_below a_rule_things a_rule_stack a_rule_code a_real_state_snow a_real_state_path a_real_state_debt)) 21 [0, 2, 3, 4, 5, 6, 7, 8, 9, 10, 11, 12, 13, 14, 15, 16, 17, 18, 19, 20] rfl rfl rfl rfl (by decide +kernel) (fun H locs hP hD hS => ?_)
  refine lv_if_eq (tgt := 21) hx hb dX11_bare_8 (by decide) (fun c3 => ?_) (fun c3 => ?_)
  · rw [if_pos c3] at hf
    cases hf
  · rw [if_neg c3] at hf
    refine lv_iload_n hx hb dX11_bare_11 rfl (lv_at hl 2 rfl) ?_
    refine lv_iconst (v := 0) hx hb dX11_bare_12 (by decide) ?_
    refine lv_bipush (v := 60) hx hb dX11_bare_13 (by decide) ?_
    obtain ⟨o4, hg5, hf⟩ := bd_some hf
    refine k_SI2 (As := [.int p2, .int 0, .int 60]) C K_RX11_128 (Nat.le_of_ble_eq_true rfl) (Nat.le_of_ble_eq_true rfl) (kX11_isWithin l E p2 0 60 o4 hg5) [] rfl rfl rfl  hP hD hS hA hl.1 (Nat.le_of_ble_eq_true rfl) rfl dX11_bare_15 (ws2 := (WX11_bare E q0 q0_text q0_town q0_weather q0_rule q0_acts q0_real q0_trial q0_round q0_nights q0_before q0_history q0_kept q0_keptHouses q0_shortest q0_tracks q0_tally q0_told q0_town_hold q0_town_below q0_town_hay q0_real_state q0_real_owedBy q0_trial_state q0_trial_owedBy q0_trial_state_snow q0_trial_state_path q0_trial_state_debt q0_weather_inches q0_rule_code q0_rule_draft q0_rule_stack q0_rule_things q0_real_state_snow q0_real_state_path q0_real_state_debt i_toldCount i_town_houses i_real_owed i_real_slides i_real_struck i_real_slid i_trial_owed i_trial_slides i_trial_struck i_trial_slid i_trial_state_now i_weather_length i_weather_cycle i_rule_length i_rule_drafted i_real_state_now a_trial_state_snow a_trial_state_path a_trial_state_debt a_trial_owedBy a_weather_inches a_town_hold a_town_below a_rule_things a_rule_stack a_rule_code a_real_state_snow a_real_state_path a_real_state_debt)) 21 [0, 1, 2, 3, 4, 5, 6, 7, 8, 9, 10, 11, 12, 13, 14, 15, 16, 17, 18, 19, 20] rfl rfl rfl rfl (by decide +kernel) (fun H locs hP hD hS => ?_)
    refine lv_if_ne (tgt := 29) hx hb dX11_bare_18 (by decide) (fun c6 => ?_) (fun c6 => ?_)
    · rw [if_neg c6] at hf
      refine lv_aload_n hx hb dX11_bare_29 rfl (lv_at hl 0 rfl) ?_
      refine gf_RX11_53 C hP 0 rfl rfl dX11_bare_30 ?_
      refine lv_aload_n hx hb dX11_bare_33 rfl (lv_at hl 0 rfl) ?_
      refine gf_RX11_49 C hP 0 rfl rfl dX11_bare_34 ?_
      refine gf_RX11_148 C hP 2 rfl rfl dX11_bare_37 ?_
      refine lv_iload_n hx hb dX11_bare_40 rfl (lv_at hl 2 rfl) ?_
      obtain ⟨o7, hg8, hf⟩ := bd_some hf
      refine k_VV2 (As := [.ref q0_real_state, .int p2]) C K_RX11_331 (Nat.le_of_ble_eq_true rfl) (Nat.le_of_ble_eq_true rfl) (kX9_walkFrom l E q0_trial q0_town q0_weather q0_rule q0_trial_state q0_trial_owedBy q0_trial_state_snow q0_trial_state_path q0_trial_state_debt q0_weather_inches q0_town_hold q0_town_below q0_town_hay q0_rule_code q0_rule_draft q0_rule_stack q0_rule_things q0_real_state q0_real_state_snow q0_real_state_path q0_real_state_debt i_trial_owed i_trial_slides i_trial_struck i_trial_slid i_trial_state_now a_trial_state_snow a_trial_state_path a_trial_state_debt a_trial_owedBy i_weather_length i_weather_cycle i_town_houses i_rule_length i_rule_drafted a_weather_inches a_town_hold a_town_below a_rule_things a_rule_stack a_rule_code i_real_state_now a_real_state_snow a_real_state_path a_real_state_debt p2 o7.1 o7.2.1 o7.2.2.1 o7.2.2.2.1 o7.2.2.2.2.1 o7.2.2.2.2.2.1 o7.2.2.2.2.2.2.1 o7.2.2.2.2.2.2.2.1 o7.2.2.2.2.2.2.2.2.1 o7.2.2.2.2.2.2.2.2.2.1 o7.2.2.2.2.2.2.2.2.2.2 hg8) [3, 4, 8, 9, 10, 11, 5, 1, 6, 12, 13, 14, 15, 16, 17, 7, 18, 19, 20] rfl rfl rfl (ci := 9) rfl rfl (q0 := 0) rfl hP hD hS hA hl.1 (Nat.le_of_ble_eq_true rfl) rfl dX11_bare_41 (ws2 := (WX11_bare E q0 q0_text q0_town q0_weather q0_rule q0_acts q0_real q0_trial q0_round q0_nights q0_before q0_history q0_kept q0_keptHouses q0_shortest q0_tracks q0_tally q0_told q0_town_hold q0_town_below q0_town_hay q0_real_state q0_real_owedBy q0_trial_state q0_trial_owedBy q0_trial_state_snow q0_trial_state_path q0_trial_state_debt q0_weather_inches q0_rule_code q0_rule_draft q0_rule_stack q0_rule_things q0_real_state_snow q0_real_state_path q0_real_state_debt i_toldCount i_town_houses i_real_owed i_real_slides i_real_struck i_real_slid o7.1 o7.2.1 o7.2.2.1 o7.2.2.2.1 o7.2.2.2.2.1 i_weather_length i_weather_cycle i_rule_length i_rule_drafted i_real_state_now o7.2.2.2.2.2.1 o7.2.2.2.2.2.2.1 o7.2.2.2.2.2.2.2.1 o7.2.2.2.2.2.2.2.2.1 a_weather_inches a_town_hold a_town_below o7.2.2.2.2.2.2.2.2.2.1 o7.2.2.2.2.2.2.2.2.2.2 a_rule_code a_real_state_snow a_real_state_path a_real_state_debt)) 21 [0, 2] rfl rfl rfl rfl (by decide +kernel) (fun H locs hP hD hS => ?_)
      refine lv_aload_n hx hb dX11_bare_44 rfl (lv_at hl 0 rfl) ?_
      refine gf_RX11_53 C hP 0 rfl rfl dX11_bare_45 ?_
      refine gf_RX11_215 C hP 3 rfl rfl dX11_bare_48 ?_
      refine lv_istore_n (lv' := [(3, .int o7.1), (0, .ref q0), (1, .int p1), (2, .int p2)]) hx hb dX11_bare_51 rfl hl (by decide) rfl (fun ls hl => ?_)
      refine lv_aload_n hx hb dX11_bare_52 rfl (lv_at hl 1 rfl) ?_
      refine gf_RX11_53 C hP 0 rfl rfl dX11_bare_53 ?_
      refine lv_aload_n hx hb dX11_bare_56 rfl (lv_at hl 1 rfl) ?_
      refine gf_RX11_49 C hP 0 rfl rfl dX11_bare_57 ?_
      refine gf_RX11_148 C hP 2 rfl rfl dX11_bare_60 ?_
      obtain ⟨o9, hg10, hf⟩ := bd_some hf
      refine k_VV2 (As := [.ref q0_real_state]) C K_RX11_337 (Nat.le_of_ble_eq_true rfl) (Nat.le_of_ble_eq_true rfl) (kX9_beginAt l E q0_trial q0_town q0_weather q0_rule q0_trial_state q0_trial_owedBy q0_trial_state_snow q0_trial_state_path q0_trial_state_debt q0_real_state q0_real_state_snow q0_real_state_path q0_real_state_debt o7.1 o7.2.1 o7.2.2.1 o7.2.2.2.1 o7.2.2.2.2.1 o7.2.2.2.2.2.1 o7.2.2.2.2.2.2.1 o7.2.2.2.2.2.2.2.1 o7.2.2.2.2.2.2.2.2.1 i_real_state_now a_real_state_snow a_real_state_path a_real_state_debt o9.1 o9.2.1 o9.2.2.1 o9.2.2.2.1 o9.2.2.2.2.1 o9.2.2.2.2.2.1 o9.2.2.2.2.2.2.1 o9.2.2.2.2.2.2.2.1 o9.2.2.2.2.2.2.2.2 hg10) [3, 4, 8, 9, 10, 11, 7, 18, 19, 20] rfl rfl rfl (ci := 9) rfl rfl (q0 := 0) rfl hP hD hS hA hl.1 (Nat.le_of_ble_eq_true rfl) rfl dX11_bare_63 (ws2 := (WX11_bare E q0 q0_text q0_town q0_weather q0_rule q0_acts q0_real q0_trial q0_round q0_nights q0_before q0_history q0_kept q0_keptHouses q0_shortest q0_tracks q0_tally q0_told q0_town_hold q0_town_below q0_town_hay q0_real_state q0_real_owedBy q0_trial_state q0_trial_owedBy q0_trial_state_snow q0_trial_state_path q0_trial_state_debt q0_weather_inches q0_rule_code q0_rule_draft q0_rule_stack q0_rule_things q0_real_state_snow q0_real_state_path q0_real_state_debt i_toldCount i_town_houses i_real_owed i_real_slides i_real_struck i_real_slid o9.1 o9.2.1 o9.2.2.1 o9.2.2.2.1 o9.2.2.2.2.1 i_weather_length i_weather_cycle i_rule_length i_rule_drafted i_real_state_now o9.2.2.2.2.2.1 o9.2.2.2.2.2.2.1 o9.2.2.2.2.2.2.2.1 o9.2.2.2.2.2.2.2.2 a_weather_inches a_town_hold a_town_below o7.2.2.2.2.2.2.2.2.2.1 o7.2.2.2.2.2.2.2.2.2.2 a_rule_code a_real_state_snow a_real_state_path a_real_state_debt)) 21 [0, 1, 2, 5, 6, 12, 13, 14, 15, 16, 17] rfl rfl rfl rfl (by decide +kernel) (fun H locs hP hD hS => ?_)
      refine lv_aload_n hx hb dX11_bare_66 rfl (lv_at hl 1 rfl) ?_
      refine gf_RX11_53 C hP 0 rfl rfl dX11_bare_67 ?_
      refine gf_RX11_148 C hP 3 rfl rfl dX11_bare_70 ?_
      refine gf_RX11_151 C hP 4 rfl rfl dX11_bare_73 ?_
      refine lv_iconst (v := 2) hx hb dX11_bare_76 (by decide) ?_
      refine lv_iload_n hx hb dX11_bare_77 rfl (lv_at hl 2 rfl) ?_
      refine lv_imul hx hb dX11_bare_78 ?_
      refine lv_iconst (v := 0) hx hb dX11_bare_79 (by decide) ?_
      obtain ⟨g11, hf⟩ := gd_some hf
      refine va_iast hx hb C.2.2.2.2.2.1 hP hD hS 8 0 rfl rfl (vin_in g11) dX11_bare_80 (fun H locs hP hD hS => ?_)
      have hP : va_P E.1 classes (WX11_bare E q0 q0_text q0_town q0_weather q0_rule q0_acts q0_real q0_trial q0_round q0_nights q0_before q0_history q0_kept q0_keptHouses q0_shortest q0_tracks q0_tally q0_told q0_town_hold q0_town_below q0_town_hay q0_real_state q0_real_owedBy q0_trial_state q0_trial_owedBy q0_trial_state_snow q0_trial_state_path q0_trial_state_debt q0_weather_inches q0_rule_code q0_rule_draft q0_rule_stack q0_rule_things q0_real_state_snow q0_real_state_path q0_real_state_debt i_toldCount i_town_houses i_real_owed i_real_slides i_real_struck i_real_slid o9.1 o9.2.1 o9.2.2.1 o9.2.2.2.1 o9.2.2.2.2.1 i_weather_length i_weather_cycle i_rule_length i_rule_drafted i_real_state_now ((upd o9.2.2.2.2.2.1 ((2 * p1) : Int32).toNatClampNeg 0)) o9.2.2.2.2.2.2.1 o9.2.2.2.2.2.2.2.1 o9.2.2.2.2.2.2.2.2 a_weather_inches a_town_hold a_town_below o7.2.2.2.2.2.2.2.2.2.1 o7.2.2.2.2.2.2.2.2.2.2 a_rule_code a_real_state_snow a_real_state_path a_real_state_debt) H := hP
      have hD : va_D A (WX11_bare E q0 q0_text q0_town q0_weather q0_rule q0_acts q0_real q0_trial q0_round q0_nights q0_before q0_history q0_kept q0_keptHouses q0_shortest q0_tracks q0_tally q0_told q0_town_hold q0_town_below q0_town_hay q0_real_state q0_real_owedBy q0_trial_state q0_trial_owedBy q0_trial_state_snow q0_trial_state_path q0_trial_state_debt q0_weather_inches q0_rule_code q0_rule_draft q0_rule_stack q0_rule_things q0_real_state_snow q0_real_state_path q0_real_state_debt i_toldCount i_town_houses i_real_owed i_real_slides i_real_struck i_real_slid o9.1 o9.2.1 o9.2.2.1 o9.2.2.2.1 o9.2.2.2.2.1 i_weather_length i_weather_cycle i_rule_length i_rule_drafted i_real_state_now ((upd o9.2.2.2.2.2.1 ((2 * p1) : Int32).toNatClampNeg 0)) o9.2.2.2.2.2.2.1 o9.2.2.2.2.2.2.2.1 o9.2.2.2.2.2.2.2.2 a_weather_inches a_town_hold a_town_below o7.2.2.2.2.2.2.2.2.2.1 o7.2.2.2.2.2.2.2.2.2.2 a_rule_code a_real_state_snow a_real_state_path a_real_state_debt) := hD
      refine lv_aload_n hx hb dX11_bare_81 rfl (lv_at hl 1 rfl) ?_
      refine gf_RX11_53 C hP 0 rfl rfl dX11_bare_82 ?_
      refine gf_RX11_148 C hP 3 rfl rfl dX11_bare_85 ?_
      refine gf_RX11_151 C hP 4 rfl rfl dX11_bare_88 ?_
      refine lv_iconst (v := 2) hx hb dX11_bare_91 (by decide) ?_
      refine lv_iload_n hx hb dX11_bare_92 rfl (lv_at hl 2 rfl) ?_
      refine lv_imul hx hb dX11_bare_93 ?_
      refine lv_iconst (v := 1) hx hb dX11_bare_94 (by decide) ?_
      refine lv_iadd hx hb dX11_bare_95 ?_
      refine lv_iconst (v := 0) hx hb dX11_bare_96 (by decide) ?_
      obtain ⟨g12, hf⟩ := gd_some hf
      refine va_iast hx hb C.2.2.2.2.2.1 hP hD hS 8 0 rfl rfl (vin_in g12) dX11_bare_97 (fun H locs hP hD hS => ?_)
      have hP : va_P E.1 classes (WX11_bare E q0 q0_text q0_town q0_weather q0_rule q0_acts q0_real q0_trial q0_round q0_nights q0_before q0_history q0_kept q0_keptHouses q0_shortest q0_tracks q0_tally q0_told q0_town_hold q0_town_below q0_town_hay q0_real_state q0_real_owedBy q0_trial_state q0_trial_owedBy q0_trial_state_snow q0_trial_state_path q0_trial_state_debt q0_weather_inches q0_rule_code q0_rule_draft q0_rule_stack q0_rule_things q0_real_state_snow q0_real_state_path q0_real_state_debt i_toldCount i_town_houses i_real_owed i_real_slides i_real_struck i_real_slid o9.1 o9.2.1 o9.2.2.1 o9.2.2.2.1 o9.2.2.2.2.1 i_weather_length i_weather_cycle i_rule_length i_rule_drafted i_real_state_now ((upd ((upd o9.2.2.2.2.2.1 ((2 * p1) : Int32).toNatClampNeg 0)) ((((2 * p1)) + 1) : Int32).toNatClampNeg 0)) o9.2.2.2.2.2.2.1 o9.2.2.2.2.2.2.2.1 o9.2.2.2.2.2.2.2.2 a_weather_inches a_town_hold a_town_below o7.2.2.2.2.2.2.2.2.2.1 o7.2.2.2.2.2.2.2.2.2.2 a_rule_code a_real_state_snow a_real_state_path a_real_state_debt) H := hP
      have hD : va_D A (WX11_bare E q0 q0_text q0_town q0_weather q0_rule q0_acts q0_real q0_trial q0_round q0_nights q0_before q0_history q0_kept q0_keptHouses q0_shortest q0_tracks q0_tally q0_told q0_town_hold q0_town_below q0_town_hay q0_real_state q0_real_owedBy q0_trial_state q0_trial_owedBy q0_trial_state_snow q0_trial_state_path q0_trial_state_debt q0_weather_inches q0_rule_code q0_rule_draft q0_rule_stack q0_rule_things q0_real_state_snow q0_real_state_path q0_real_state_debt i_toldCount i_town_houses i_real_owed i_real_slides i_real_struck i_real_slid o9.1 o9.2.1 o9.2.2.1 o9.2.2.2.1 o9.2.2.2.2.1 i_weather_length i_weather_cycle i_rule_length i_rule_drafted i_real_state_now ((upd ((upd o9.2.2.2.2.2.1 ((2 * p1) : Int32).toNatClampNeg 0)) ((((2 * p1)) + 1) : Int32).toNatClampNeg 0)) o9.2.2.2.2.2.2.1 o9.2.2.2.2.2.2.2.1 o9.2.2.2.2.2.2.2.2 a_weather_inches a_town_hold a_town_below o7.2.2.2.2.2.2.2.2.2.1 o7.2.2.2.2.2.2.2.2.2.2 a_rule_code a_real_state_snow a_real_state_path a_real_state_debt) := hD
      refine lv_aload_n hx hb dX11_bare_98 rfl (lv_at hl 1 rfl) ?_
      refine gf_RX11_53 C hP 0 rfl rfl dX11_bare_99 ?_
      refine lv_iload_n hx hb dX11_bare_102 rfl (lv_at hl 3 rfl) ?_
      obtain ⟨o13, hg14, hf⟩ := bd_some hf
      refine k_VV2 (As := [.int p2]) C K_RX11_211 (Nat.le_of_ble_eq_true rfl) (Nat.le_of_ble_eq_true rfl) (kX9_goDays l E q0_trial q0_town q0_weather q0_rule q0_trial_state q0_trial_owedBy q0_trial_state_snow q0_trial_state_path q0_trial_state_debt q0_weather_inches q0_town_hold q0_town_below q0_town_hay q0_rule_code q0_rule_draft q0_rule_stack q0_rule_things o9.1 o9.2.1 o9.2.2.1 o9.2.2.2.1 o9.2.2.2.2.1 i_weather_length i_weather_cycle i_town_houses i_rule_length i_rule_drafted a_weather_inches ((upd ((upd o9.2.2.2.2.2.1 ((2 * p1) : Int32).toNatClampNeg 0)) ((((2 * p1)) + 1) : Int32).toNatClampNeg 0)) o9.2.2.2.2.2.2.1 a_town_hold a_town_below o7.2.2.2.2.2.2.2.2.2.1 o7.2.2.2.2.2.2.2.2.2.2 a_rule_code o9.2.2.2.2.2.2.2.1 o9.2.2.2.2.2.2.2.2 p2 o13.1 o13.2.1 o13.2.2.1 o13.2.2.2.1 o13.2.2.2.2.1 o13.2.2.2.2.2.1 o13.2.2.2.2.2.2.1 o13.2.2.2.2.2.2.2.1 o13.2.2.2.2.2.2.2.2.1 o13.2.2.2.2.2.2.2.2.2.1 o13.2.2.2.2.2.2.2.2.2.2 hg14) [3, 4, 5, 1, 6, 12, 8, 9, 13, 14, 15, 16, 17, 10, 11] rfl rfl rfl (ci := 9) rfl rfl (q0 := 0) rfl hP hD hS hA hl.1 (Nat.le_of_ble_eq_true rfl) rfl dX11_bare_103 (ws2 := (WX11_bare E q0 q0_text q0_town q0_weather q0_rule q0_acts q0_real q0_trial q0_round q0_nights q0_before q0_history q0_kept q0_keptHouses q0_shortest q0_tracks q0_tally q0_told q0_town_hold q0_town_below q0_town_hay q0_real_state q0_real_owedBy q0_trial_state q0_trial_owedBy q0_trial_state_snow q0_trial_state_path q0_trial_state_debt q0_weather_inches q0_rule_code q0_rule_draft q0_rule_stack q0_rule_things q0_real_state_snow q0_real_state_path q0_real_state_debt i_toldCount i_town_houses i_real_owed i_real_slides i_real_struck i_real_slid o13.1 o13.2.1 o13.2.2.1 o13.2.2.2.1 o13.2.2.2.2.1 i_weather_length i_weather_cycle i_rule_length i_rule_drafted i_real_state_now o13.2.2.2.2.2.1 o13.2.2.2.2.2.2.1 o13.2.2.2.2.2.2.2.2.2.1 o13.2.2.2.2.2.2.2.2.2.2 a_weather_inches a_town_hold a_town_below o13.2.2.2.2.2.2.2.1 o13.2.2.2.2.2.2.2.2.1 a_rule_code a_real_state_snow a_real_state_path a_real_state_debt)) 21 [0, 2, 7, 18, 19, 20] rfl rfl rfl rfl (by decide +kernel) (fun H locs hP hD hS => ?_)
      refine lv_iload_n hx hb dX11_bare_106 rfl (lv_at hl 0 rfl) ?_
      refine lv_aload_n hx hb dX11_bare_107 rfl (lv_at hl 1 rfl) ?_
      refine gf_RX11_53 C hP 0 rfl rfl dX11_bare_108 ?_
      refine gf_RX11_215 C hP 3 rfl rfl dX11_bare_111 ?_
      refine lv_isub hx hb dX11_bare_114 ?_
      have hj0 := Option.some.inj hf
      subst hj0
      exact hret _ _ _ _ dX11_bare_115 rfl hP hD hS
    · rw [if_pos c6] at hf
      cases hf
theorem q414 : Cond.fieldLink RX11 62 "SnowForSummer" "nights" "LSnowForSummer$Hands;" ∈ Tg := Tg_mem 414 (by decide +kernel) (by decide +kernel)
theorem gf_RX11_62 {p : Program} {l : Launch} {e : Env} {R : Room} {s : State} {m : MethodId} {args : Array Value} {below : List Frame} {meth : Method} {c : Code} {H : Heap} {locs : List Loc} {cells slots : Nat} {Q : State → Prop} {E : ENV} {cc : ByteArray} {n : Nat} {r : Option FieldType} {pc : Nat} {ls : Array Slot} {rest : List Value} {a : Nat} {ws : va_W} {nm ds : String} {fs : List Value} {A : Nat → Prop} {v : Value} (C : Cx E A ⟨RX11, nm, ds⟩ cc n r p s m args meth c) (hP : va_P E.1 classes ws H) (q0 : Nat) (he : ws[q0]? = some (a, .inr (11, fs))) (hv : fs[8]? = some v) (hdg : decode cc pc = .ok (.getfield 62, 3))
    (kk : W p l e R s m args below meth c H locs cells slots Q (F0 m (pc + 3) ls (v :: rest))) : W p l e R s m args below meth c H locs cells slots Q (F0 m pc ls (.ref a :: rest)) :=
  va_get (C := RX11) (T := TX11) (N := 18) (Ts := wl ⟨RX11, nm, ds⟩ cc n r) C.1 C.2.1 C.2.2.2.2.1 (fun w h => List.mem_cons_of_mem _ (inT11 w h)) C.2.2.2.1 C.2.2.2.2.2.1 hP q0 he rfl 8 (by decide) (C.2.2.2.2.1 _ (List.mem_cons_of_mem _ q414)) (fun _ h9 => h9) hv hdg kk
theorem q323 : Cond.fieldLinkNest RX11 371 "SnowForSummer$Hands" "count" "I" "SnowForSummer" ∈ NL := NL_mem 323 (by decide +kernel) (by decide +kernel)
theorem gf_RX11_371 {p : Program} {l : Launch} {e : Env} {R : Room} {s : State} {m : MethodId} {args : Array Value} {below : List Frame} {meth : Method} {c : Code} {H : Heap} {locs : List Loc} {cells slots : Nat} {Q : State → Prop} {E : ENV} {cc : ByteArray} {n : Nat} {r : Option FieldType} {pc : Nat} {ls : Array Slot} {rest : List Value} {a : Nat} {ws : va_W} {nm ds : String} {fs : List Value} {A : Nat → Prop} {v : Value} (C : Cx E A ⟨RX11, nm, ds⟩ cc n r p s m args meth c) (hP : va_P E.1 classes ws H) (q0 : Nat) (he : ws[q0]? = some (a, .inr (1, fs))) (hv : fs[4]? = some v) (hdg : decode cc pc = .ok (.getfield 371, 3))
    (kk : W p l e R s m args below meth c H locs cells slots Q (F0 m (pc + 3) ls (v :: rest))) : W p l e R s m args below meth c H locs cells slots Q (F0 m pc ls (.ref a :: rest)) :=
  va_getN (C := RX1) (T := TX1) (N := 7) (Ts := wl ⟨RX11, nm, ds⟩ cc n r) C.1 C.2.1 C.2.2.2.2.1 (fun w h => List.mem_cons_of_mem _ (inT1 w h)) C.2.2.2.1 C.2.2.2.2.2.1 hP q0 he rfl 4 (by decide) (va_Nw.use rfl (C.2.2.2.2.2.2.2.2.1 _ q323)) (fun _ h9 => h9) hv hdg kk
theorem q320 : Cond.fieldLinkNest RX11 374 "SnowForSummer$Hands" "bestRow" "[I" "SnowForSummer" ∈ NL := NL_mem 320 (by decide +kernel) (by decide +kernel)
theorem gf_RX11_374 {p : Program} {l : Launch} {e : Env} {R : Room} {s : State} {m : MethodId} {args : Array Value} {below : List Frame} {meth : Method} {c : Code} {H : Heap} {locs : List Loc} {cells slots : Nat} {Q : State → Prop} {E : ENV} {cc : ByteArray} {n : Nat} {r : Option FieldType} {pc : Nat} {ls : Array Slot} {rest : List Value} {a : Nat} {ws : va_W} {nm ds : String} {fs : List Value} {A : Nat → Prop} {v : Value} (C : Cx E A ⟨RX11, nm, ds⟩ cc n r p s m args meth c) (hP : va_P E.1 classes ws H) (q0 : Nat) (he : ws[q0]? = some (a, .inr (1, fs))) (hv : fs[2]? = some v) (hdg : decode cc pc = .ok (.getfield 374, 3))
    (kk : W p l e R s m args below meth c H locs cells slots Q (F0 m (pc + 3) ls (v :: rest))) : W p l e R s m args below meth c H locs cells slots Q (F0 m pc ls (.ref a :: rest)) :=
  va_getN (C := RX1) (T := TX1) (N := 7) (Ts := wl ⟨RX11, nm, ds⟩ cc n r) C.1 C.2.1 C.2.2.2.2.1 (fun w h => List.mem_cons_of_mem _ (inT1 w h)) C.2.2.2.1 C.2.2.2.2.2.1 hP q0 he rfl 2 (by decide) (va_Nw.use rfl (C.2.2.2.2.2.2.2.2.1 _ q320)) (fun _ h9 => h9) hv hdg kk
theorem dX11_tellSweeping_0 : decode cX11_tellSweeping 0 = .ok (.iload_n 1, 1) := by decide +kernel
theorem dX11_tellSweeping_1 : decode cX11_tellSweeping 1 = .ok (.ifCond .lt 40, 3) := by decide +kernel
theorem dX11_tellSweeping_4 : decode cX11_tellSweeping 4 = .ok (.aload_n 0, 1) := by decide +kernel
theorem dX11_tellSweeping_5 : decode cX11_tellSweeping 5 = .ok (.iconst 0, 1) := by decide +kernel
theorem dX11_tellSweeping_6 : decode cX11_tellSweeping 6 = .ok (.putfield 288, 3) := by decide +kernel
theorem dX11_tellSweeping_9 : decode cX11_tellSweeping 9 = .ok (.iconst 0, 1) := by decide +kernel
theorem dX11_tellSweeping_10 : decode cX11_tellSweeping 10 = .ok (.istore_n 2, 1) := by decide +kernel
theorem dX11_tellSweeping_11 : decode cX11_tellSweeping 11 = .ok (.iload_n 2, 1) := by decide +kernel
theorem dX11_tellSweeping_12 : decode cX11_tellSweeping 12 = .ok (.aload_n 0, 1) := by decide +kernel
theorem dX11_tellSweeping_13 : decode cX11_tellSweeping 13 = .ok (.getfield 62, 3) := by decide +kernel
theorem dX11_tellSweeping_16 : decode cX11_tellSweeping 16 = .ok (.getfield 371, 3) := by decide +kernel
theorem dX11_tellSweeping_19 : decode cX11_tellSweeping 19 = .ok (.if_icmp .ge 22, 3) := by decide +kernel
theorem dX11_tellSweeping_22 : decode cX11_tellSweeping 22 = .ok (.aload_n 0, 1) := by decide +kernel
theorem dX11_tellSweeping_23 : decode cX11_tellSweeping 23 = .ok (.aload_n 0, 1) := by decide +kernel
theorem dX11_tellSweeping_24 : decode cX11_tellSweeping 24 = .ok (.getfield 62, 3) := by decide +kernel
theorem dX11_tellSweeping_27 : decode cX11_tellSweeping 27 = .ok (.getfield 374, 3) := by decide +kernel
theorem dX11_tellSweeping_30 : decode cX11_tellSweeping 30 = .ok (.iload_n 2, 1) := by decide +kernel
theorem dX11_tellSweeping_31 : decode cX11_tellSweeping 31 = .ok (.iaload, 1) := by decide +kernel
theorem dX11_tellSweeping_32 : decode cX11_tellSweeping 32 = .ok (.invokevirtual 295, 3) := by decide +kernel
theorem dX11_tellSweeping_35 : decode cX11_tellSweeping 35 = .ok (.iinc 2 1, 3) := by decide +kernel
theorem dX11_tellSweeping_38 : decode cX11_tellSweeping 38 = .ok (.goto (-27), 3) := by decide +kernel
theorem dX11_tellSweeping_41 : decode cX11_tellSweeping 41 = .ok (.iload_n 1, 1) := by decide +kernel
theorem dX11_tellSweeping_42 : decode cX11_tellSweeping 42 = .ok (.ireturn, 1) := by decide +kernel
def WX11_tellSweeping (E : ENV) (q0 : Nat) (q0_text : Nat) (q0_town : Nat) (q0_weather : Nat) (q0_rule : Nat) (q0_acts : Nat) (q0_real : Nat) (q0_trial : Nat) (q0_round : Nat) (q0_nights : Nat) (q0_before : Nat) (q0_history : Nat) (q0_kept : Nat) (q0_keptHouses : Nat) (q0_shortest : Nat) (q0_tracks : Nat) (q0_tally : Nat) (q0_told : Nat) (q0_nights_walks : Nat) (q0_nights_chosen : Nat) (q0_nights_bestRow : Nat) (i_toldCount : Int32) (i_nights_house : Int32) (i_nights_count : Int32) (i_nights_inches : Int32) (i_nights_fewest : Int32) (a_nights_bestRow : Nat → Int32) (a_told : Nat → Int32) : va_W := [(q0, .inr (11, [.ref q0_text, .ref q0_town, .ref q0_weather, .ref q0_rule, .ref q0_acts, .ref q0_real, .ref q0_trial, .ref q0_round, .ref q0_nights, .ref q0_before, .ref q0_history, .ref q0_kept, .ref q0_keptHouses, .ref q0_shortest, .ref q0_tracks, .ref q0_tally, .ref q0_told, .int i_toldCount])), (q0_nights, .inr (1, [.ref q0_nights_walks, .ref q0_nights_chosen, .ref q0_nights_bestRow, .int i_nights_house, .int i_nights_count, .int i_nights_inches, .int i_nights_fewest])), (q0_nights_bestRow, .inl (E.2.1, 3, .inl a_nights_bestRow)), (q0_told, .inl (E.2.1, 8, .inl a_told))]
set_option maxHeartbeats 4000000 in
set_option maxRecDepth 20000 in
theorem kX11_tellSweeping (l : Launch) (E : ENV) (q0 : Nat) (q0_text : Nat) (q0_town : Nat) (q0_weather : Nat) (q0_rule : Nat) (q0_acts : Nat) (q0_real : Nat) (q0_trial : Nat) (q0_round : Nat) (q0_nights : Nat) (q0_before : Nat) (q0_history : Nat) (q0_kept : Nat) (q0_keptHouses : Nat) (q0_shortest : Nat) (q0_tracks : Nat) (q0_tally : Nat) (q0_told : Nat) (q0_nights_walks : Nat) (q0_nights_chosen : Nat) (q0_nights_bestRow : Nat) (i_toldCount : Int32) (i_nights_house : Int32) (i_nights_count : Int32) (i_nights_inches : Int32) (i_nights_fewest : Int32) (a_nights_bestRow : Nat → Int32) (a_told : Nat → Int32) (p1 : Int32) (o9 : Int32 × Int32 × (Nat → Int32)) (hf : fX11_tellSweeping i_toldCount i_nights_count a_nights_bestRow a_told p1 = some o9) : CI l E yX11_tellSweeping cX11_tellSweeping 3 (some .int) 1 [.ref q0, .int p1] (WX11_tellSweeping E q0 q0_text q0_town q0_weather q0_rule q0_acts q0_real q0_trial q0_round q0_nights q0_before q0_history q0_kept q0_keptHouses q0_shortest q0_tracks q0_tally q0_told q0_nights_walks q0_nights_chosen q0_nights_bestRow i_toldCount i_nights_house i_nights_count i_nights_inches i_nights_fewest a_nights_bestRow a_told) (WX11_tellSweeping E q0 q0_text q0_town q0_weather q0_rule q0_acts q0_real q0_trial q0_round q0_nights q0_before q0_history q0_kept q0_keptHouses q0_shortest q0_tracks q0_tally q0_told q0_nights_walks q0_nights_chosen q0_nights_bestRow o9.2.1 i_nights_house i_nights_count i_nights_inches i_nights_fewest a_nights_bestRow o9.2.2) o9.1 := by
  refine begI (by decide +kernel) (Nat.le_of_ble_eq_true rfl) ?_
  intro p e s m args below meth c A Q C hA hret
  have hx := C.1
  have hb := C.2.1
  have L11 : ∀ (n : Nat) (v2 : Int32) (i_toldCount : Int32) (a_told : Nat → Int32) (o : Int32 × (Nat → Int32)), fX11_tellSweeping_L11 i_nights_count a_nights_bestRow n v2 i_toldCount a_told = some o → (GO p l e 1 s m args below meth c Q E A 3 41 [] [(1, .int p1)] (WX11_tellSweeping E q0 q0_text q0_town q0_weather q0_rule q0_acts q0_real q0_trial q0_round q0_nights q0_before q0_history q0_kept q0_keptHouses q0_shortest q0_tracks q0_tally q0_told q0_nights_walks q0_nights_chosen q0_nights_bestRow o.1 i_nights_house i_nights_count i_nights_inches i_nights_fewest a_nights_bestRow o.2)) → GO p l e 1 s m args below meth c Q E A 3 11 [] [(0, .ref q0), (1, .int p1), (2, .int v2)] (WX11_tellSweeping E q0 q0_text q0_town q0_weather q0_rule q0_acts q0_real q0_trial q0_round q0_nights q0_before q0_history q0_kept q0_keptHouses q0_shortest q0_tracks q0_tally q0_told q0_nights_walks q0_nights_chosen q0_nights_bestRow i_toldCount i_nights_house i_nights_count i_nights_inches i_nights_fewest a_nights_bestRow a_told) := by
    intro n
    induction n with
    | zero =>
      intro v2 i_toldCount a_told o hf
      have hf : none = some o := hf
      cases hf
    | succ n ih =>
      intro v2 i_toldCount a_told o hf hE
      intro H locs ls hl hP hD hS
      rw [fX11_tellSweeping_L11] at hf
      refine lv_iload_n hx hb dX11_tellSweeping_11 rfl (lv_at hl 2 rfl) ?_
      refine lv_aload_n hx hb dX11_tellSweeping_12 rfl (lv_at hl 0 rfl) ?_
      refine gf_RX11_62 C hP 0 rfl rfl dX11_tellSweeping_13 ?_
      refine gf_RX11_371 C hP 1 rfl rfl dX11_tellSweeping_16 ?_
      refine lv_icmp_ge (tgt := 41) hx hb dX11_tellSweeping_19 (by decide) (fun c2 => ?_) (fun c2 => ?_)
      · rw [if_pos c2] at hf
        have hf := Option.some.inj hf
        subst hf
        exact hE _ _ _ (lv_sub hl [1] rfl) hP hD hS
      · rw [if_neg c2] at hf
        refine lv_aload_n hx hb dX11_tellSweeping_22 rfl (lv_at hl 0 rfl) ?_
        refine lv_aload_n hx hb dX11_tellSweeping_23 rfl (lv_at hl 0 rfl) ?_
        refine gf_RX11_62 C hP 0 rfl rfl dX11_tellSweeping_24 ?_
        refine gf_RX11_374 C hP 1 rfl rfl dX11_tellSweeping_27 ?_
        refine lv_iload_n hx hb dX11_tellSweeping_30 rfl (lv_at hl 2 rfl) ?_
        obtain ⟨g3, hf⟩ := gd_some hf
        refine va_iald hx hb C.2.2.2.2.2.1 hP 2 0 rfl rfl (vin_in g3) dX11_tellSweeping_31 ?_
        obtain ⟨o4, hg5, hf⟩ := bd_some hf
        refine k_VV2 (As := [.int ((a_nights_bestRow (v2 : Int32).toNatClampNeg))]) C K_RX11_295 (Nat.le_of_ble_eq_true rfl) (Nat.le_of_ble_eq_true rfl) (kX11_tellMore l E q0 q0_text q0_town q0_weather q0_rule q0_acts q0_real q0_trial q0_round q0_nights q0_before q0_history q0_kept q0_keptHouses q0_shortest q0_tracks q0_tally q0_told i_toldCount a_told ((a_nights_bestRow (v2 : Int32).toNatClampNeg)) o4 hg5) [0, 3] rfl rfl rfl (ci := 11) rfl rfl (q0 := 0) rfl hP hD hS hA hl.1 (Nat.le_of_ble_eq_true rfl) rfl dX11_tellSweeping_32 (ws2 := (WX11_tellSweeping E q0 q0_text q0_town q0_weather q0_rule q0_acts q0_real q0_trial q0_round q0_nights q0_before q0_history q0_kept q0_keptHouses q0_shortest q0_tracks q0_tally q0_told q0_nights_walks q0_nights_chosen q0_nights_bestRow o4.1 i_nights_house i_nights_count i_nights_inches i_nights_fewest a_nights_bestRow o4.2)) 4 [1, 2] rfl rfl rfl rfl (by decide +kernel) (fun H locs hP hD hS => ?_)
        refine lv_iinc (v := (v2 + 1)) (lv' := [(2, .int ((v2 + 1))), (0, .ref q0), (1, .int p1)]) hx hb dX11_tellSweeping_35 hl (k := 2) rfl rfl (by decide) rfl (fun ls hl => ?_)
        refine lv_goto (tgt := 11) hx hb dX11_tellSweeping_38 (by decide) ?_
        exact ih ((v2 + 1)) o4.1 o4.2 _ hf hE _ _ _ (lv_sub hl [1, 2, 0] rfl) hP hD hS
  intro H locs ls hl hP hD hS
  have hl : lv_has ls 3 [(0, .ref q0), (1, .int p1)] := hl
  unfold fX11_tellSweeping at hf
  refine lv_iload_n hx hb dX11_tellSweeping_0 rfl (lv_at hl 1 rfl) ?_
  refine lv_if_lt (tgt := 41) hx hb dX11_tellSweeping_1 (by decide) (fun c1 => ?_) (fun c1 => ?_)
  · rw [if_pos c1] at hf
    refine lv_iload_n hx hb dX11_tellSweeping_41 rfl (lv_at hl 1 rfl) ?_
    have hj0 := Option.some.inj hf
    subst hj0
    exact hret _ _ _ _ dX11_tellSweeping_42 rfl hP hD hS
  · rw [if_neg c1] at hf
    refine lv_aload_n hx hb dX11_tellSweeping_4 rfl (lv_at hl 0 rfl) ?_
    refine lv_iconst (v := 0) hx hb dX11_tellSweeping_5 (by decide) ?_
    refine pf_RX11_288 C hP hD hS 0 rfl (Nat.le_of_ble_eq_true rfl) dX11_tellSweeping_6 (fun H locs hP hD hS => ?_)
    have hP : va_P E.1 classes (WX11_tellSweeping E q0 q0_text q0_town q0_weather q0_rule q0_acts q0_real q0_trial q0_round q0_nights q0_before q0_history q0_kept q0_keptHouses q0_shortest q0_tracks q0_tally q0_told q0_nights_walks q0_nights_chosen q0_nights_bestRow 0 i_nights_house i_nights_count i_nights_inches i_nights_fewest a_nights_bestRow a_told) H := hP
    have hD : va_D A (WX11_tellSweeping E q0 q0_text q0_town q0_weather q0_rule q0_acts q0_real q0_trial q0_round q0_nights q0_before q0_history q0_kept q0_keptHouses q0_shortest q0_tracks q0_tally q0_told q0_nights_walks q0_nights_chosen q0_nights_bestRow 0 i_nights_house i_nights_count i_nights_inches i_nights_fewest a_nights_bestRow a_told) := hD
    refine lv_iconst (v := 0) hx hb dX11_tellSweeping_9 (by decide) ?_
    refine lv_istore_n (lv' := [(2, .int 0), (0, .ref q0), (1, .int p1)]) hx hb dX11_tellSweeping_10 rfl hl (by decide) rfl (fun ls hl => ?_)
    obtain ⟨o6, hg7, hf⟩ := bd_some hf
    refine L11 FU 0 0 a_told o6 hg7 ?_ _ _ _ (lv_sub hl [1, 2, 0] rfl) hP hD hS
    intro H locs ls hl hP hD hS
    refine lv_iload_n hx hb dX11_tellSweeping_41 rfl (lv_at hl 0 rfl) ?_
    have hj0 := Option.some.inj hf
    subst hj0
    exact hret _ _ _ _ dX11_tellSweeping_42 rfl hP hD hS
theorem K_RX11_364 : KV RX11 364 yX1_look cX1_look 5 (some .int) 4 := ⟨Tg_mem 1105 (by decide +kernel) (by decide +kernel), Tg_mem 98 (by decide +kernel) (by decide +kernel), Tg_mem 1102 (by decide +kernel) (by decide +kernel), Tg_mem 1103 (by decide +kernel) (by decide +kernel), Tg_mem 1104 (by decide +kernel) (by decide +kernel), by decide +kernel⟩
theorem K_RX11_368 : KV RX11 368 yX11_tellSweeping cX11_tellSweeping 3 (some .int) 1 := ⟨Tg_mem 1132 (by decide +kernel) (by decide +kernel), Tg_mem 90 (by decide +kernel) (by decide +kernel), Tg_mem 1129 (by decide +kernel) (by decide +kernel), Tg_mem 1131 (by decide +kernel) (by decide +kernel), Tg_mem 35 (by decide +kernel) (by decide +kernel), by decide +kernel⟩
theorem dX11_owedFrom_0 : decode cX11_owedFrom 0 = .ok (.iload_n 2, 1) := by decide +kernel
theorem dX11_owedFrom_1 : decode cX11_owedFrom 1 = .ok (.iconst 2, 1) := by decide +kernel
theorem dX11_owedFrom_2 : decode cX11_owedFrom 2 = .ok (.idiv, 1) := by decide +kernel
theorem dX11_owedFrom_3 : decode cX11_owedFrom 3 = .ok (.istore 5, 2) := by decide +kernel
theorem dX11_owedFrom_5 : decode cX11_owedFrom 5 = .ok (.aload_n 0, 1) := by decide +kernel
theorem dX11_owedFrom_6 : decode cX11_owedFrom 6 = .ok (.getfield 53, 3) := by decide +kernel
theorem dX11_owedFrom_9 : decode cX11_owedFrom 9 = .ok (.aload_n 1, 1) := by decide +kernel
theorem dX11_owedFrom_10 : decode cX11_owedFrom 10 = .ok (.invokevirtual 337, 3) := by decide +kernel
theorem dX11_owedFrom_13 : decode cX11_owedFrom 13 = .ok (.iload 4, 2) := by decide +kernel
theorem dX11_owedFrom_15 : decode cX11_owedFrom 15 = .ok (.ifCond .eq 14, 3) := by decide +kernel
theorem dX11_owedFrom_18 : decode cX11_owedFrom 18 = .ok (.aload_n 0, 1) := by decide +kernel
theorem dX11_owedFrom_19 : decode cX11_owedFrom 19 = .ok (.getfield 53, 3) := by decide +kernel
theorem dX11_owedFrom_22 : decode cX11_owedFrom 22 = .ok (.iload_n 2, 1) := by decide +kernel
theorem dX11_owedFrom_23 : decode cX11_owedFrom 23 = .ok (.iload 5, 2) := by decide +kernel
theorem dX11_owedFrom_25 : decode cX11_owedFrom 25 = .ok (.iconst 1, 1) := by decide +kernel
theorem dX11_owedFrom_26 : decode cX11_owedFrom 26 = .ok (.invokevirtual 270, 3) := by decide +kernel
theorem dX11_owedFrom_29 : decode cX11_owedFrom 29 = .ok (.aload_n 0, 1) := by decide +kernel
theorem dX11_owedFrom_30 : decode cX11_owedFrom 30 = .ok (.getfield 53, 3) := by decide +kernel
theorem dX11_owedFrom_33 : decode cX11_owedFrom 33 = .ok (.iload_n 3, 1) := by decide +kernel
theorem dX11_owedFrom_34 : decode cX11_owedFrom 34 = .ok (.invokevirtual 211, 3) := by decide +kernel
theorem dX11_owedFrom_37 : decode cX11_owedFrom 37 = .ok (.aload_n 0, 1) := by decide +kernel
theorem dX11_owedFrom_38 : decode cX11_owedFrom 38 = .ok (.getfield 53, 3) := by decide +kernel
theorem dX11_owedFrom_41 : decode cX11_owedFrom 41 = .ok (.getfield 335, 3) := by decide +kernel
theorem dX11_owedFrom_44 : decode cX11_owedFrom 44 = .ok (.iload 5, 2) := by decide +kernel
theorem dX11_owedFrom_46 : decode cX11_owedFrom 46 = .ok (.iaload, 1) := by decide +kernel
theorem dX11_owedFrom_47 : decode cX11_owedFrom 47 = .ok (.ireturn, 1) := by decide +kernel
def WX11_owedFrom (E : ENV) (q0 : Nat) (q0_text : Nat) (q0_town : Nat) (q0_weather : Nat) (q0_rule : Nat) (q0_acts : Nat) (q0_real : Nat) (q0_trial : Nat) (q0_round : Nat) (q0_nights : Nat) (q0_before : Nat) (q0_history : Nat) (q0_kept : Nat) (q0_keptHouses : Nat) (q0_shortest : Nat) (q0_tracks : Nat) (q0_tally : Nat) (q0_told : Nat) (q0_trial_state : Nat) (q0_trial_owedBy : Nat) (q0_trial_state_snow : Nat) (q0_trial_state_path : Nat) (q0_trial_state_debt : Nat) (q0_town_hold : Nat) (q0_town_below : Nat) (q0_town_hay : Nat) (q0_rule_code : Nat) (q0_rule_draft : Nat) (q0_rule_stack : Nat) (q0_rule_things : Nat) (q0_weather_inches : Nat) (q1 : Nat) (q1_snow : Nat) (q1_path : Nat) (q1_debt : Nat) (i_toldCount : Int32) (i_trial_owed : Int32) (i_trial_slides : Int32) (i_trial_struck : Int32) (i_trial_slid : Int32) (i_trial_state_now : Int32) (a_trial_state_snow : Nat → Int32) (a_trial_state_path : Nat → Int32) (a_trial_state_debt : Nat → Int32) (a_trial_owedBy : Nat → Int32) (i_town_houses : Int32) (i_rule_length : Int32) (i_rule_drafted : Int32) (i_weather_length : Int32) (i_weather_cycle : Int32) (a_town_below : Nat → Int32) (a_rule_things : Nat → Int32) (a_weather_inches : Nat → Int32) (a_town_hold : Nat → Int32) (a_rule_stack : Nat → Int32) (a_rule_code : Nat → Int32) (i_p1_now : Int32) (a_p1_snow : Nat → Int32) (a_p1_path : Nat → Int32) (a_p1_debt : Nat → Int32) : va_W := [(q0, .inr (11, [.ref q0_text, .ref q0_town, .ref q0_weather, .ref q0_rule, .ref q0_acts, .ref q0_real, .ref q0_trial, .ref q0_round, .ref q0_nights, .ref q0_before, .ref q0_history, .ref q0_kept, .ref q0_keptHouses, .ref q0_shortest, .ref q0_tracks, .ref q0_tally, .ref q0_told, .int i_toldCount])), (q0_trial, .inr (9, [.ref q0_town, .ref q0_weather, .ref q0_rule, .ref q0_trial_state, .ref q0_trial_owedBy, .int i_trial_owed, .int i_trial_slides, .int i_trial_struck, .int i_trial_slid])), (q0_trial_state, .inr (5, [.ref q0_trial_state_snow, .ref q0_trial_state_path, .ref q0_trial_state_debt, .int i_trial_state_now])), (q0_trial_state_snow, .inl (E.2.1, 14, .inl a_trial_state_snow)), (q0_trial_state_path, .inl (E.2.1, 7, .inl a_trial_state_path)), (q0_trial_state_debt, .inl (E.2.1, 49, .inl a_trial_state_debt)), (q0_trial_owedBy, .inl (E.2.1, 7, .inl a_trial_owedBy)), (q0_town, .inr (7, [.ref q0_town_hold, .ref q0_town_below, .ref q0_town_hay, .int i_town_houses])), (q0_rule, .inr (4, [.ref q0_rule_code, .ref q0_rule_draft, .ref q0_rule_stack, .ref q0_rule_things, .int i_rule_length, .int i_rule_drafted])), (q0_weather, .inr (10, [.ref q0_weather_inches, .int i_weather_length, .int i_weather_cycle])), (q0_town_below, .inl (E.2.1, 14, .inl a_town_below)), (q0_rule_things, .inl (E.2.1, 8, .inl a_rule_things)), (q0_weather_inches, .inl (E.2.1, 40, .inl a_weather_inches)), (q0_town_hold, .inl (E.2.1, 7, .inl a_town_hold)), (q0_rule_stack, .inl (E.2.1, 40, .inl a_rule_stack)), (q0_rule_code, .inl (E.2.1, 40, .inl a_rule_code)), (q1, .inr (5, [.ref q1_snow, .ref q1_path, .ref q1_debt, .int i_p1_now])), (q1_snow, .inl (E.2.1, 14, .inl a_p1_snow)), (q1_path, .inl (E.2.1, 7, .inl a_p1_path)), (q1_debt, .inl (E.2.1, 49, .inl a_p1_debt))]
set_option maxHeartbeats 4000000 in
set_option maxRecDepth 20000 in
theorem kX11_owedFrom (l : Launch) (E : ENV) (q0 : Nat) (q0_text : Nat) (q0_town : Nat) (q0_weather : Nat) (q0_rule : Nat) (q0_acts : Nat) (q0_real : Nat) (q0_trial : Nat) (q0_round : Nat) (q0_nights : Nat) (q0_before : Nat) (q0_history : Nat) (q0_kept : Nat) (q0_keptHouses : Nat) (q0_shortest : Nat) (q0_tracks : Nat) (q0_tally : Nat) (q0_told : Nat) (q0_trial_state : Nat) (q0_trial_owedBy : Nat) (q0_trial_state_snow : Nat) (q0_trial_state_path : Nat) (q0_trial_state_debt : Nat) (q0_town_hold : Nat) (q0_town_below : Nat) (q0_town_hay : Nat) (q0_rule_code : Nat) (q0_rule_draft : Nat) (q0_rule_stack : Nat) (q0_rule_things : Nat) (q0_weather_inches : Nat) (q1 : Nat) (q1_snow : Nat) (q1_path : Nat) (q1_debt : Nat) (i_toldCount : Int32) (i_trial_owed : Int32) (i_trial_slides : Int32) (i_trial_struck : Int32) (i_trial_slid : Int32) (i_trial_state_now : Int32) (a_trial_state_snow : Nat → Int32) (a_trial_state_path : Nat → Int32) (a_trial_state_debt : Nat → Int32) (a_trial_owedBy : Nat → Int32) (i_town_houses : Int32) (i_rule_length : Int32) (i_rule_drafted : Int32) (i_weather_length : Int32) (i_weather_cycle : Int32) (a_town_below : Nat → Int32) (a_rule_things : Nat → Int32) (a_weather_inches : Nat → Int32) (a_town_hold : Nat → Int32) (a_rule_stack : Nat → Int32) (a_rule_code : Nat → Int32) (i_p1_now : Int32) (a_p1_snow : Nat → Int32) (a_p1_path : Nat → Int32) (a_p1_debt : Nat → Int32) (p2 : Int32) (p3 : Int32) (p4 : Int32) (o9 : Int32 × Int32 × Int32 × Int32 × Int32 × Int32 × (Nat → Int32) × (Nat → Int32) × (Nat → Int32) × (Nat → Int32) × (Nat → Int32) × (Nat → Int32)) (hf : fX11_owedFrom i_trial_owed i_trial_slides i_trial_struck i_trial_slid i_trial_state_now a_trial_state_snow a_trial_state_path a_trial_state_debt a_trial_owedBy i_town_houses i_rule_length i_weather_cycle a_town_below a_rule_things a_weather_inches a_town_hold a_rule_stack a_rule_code i_p1_now a_p1_snow a_p1_path a_p1_debt p2 p3 p4 = some o9) : CI l E yX11_owedFrom cX11_owedFrom 6 (some .int) 5 [.ref q0, .ref q1, .int p2, .int p3, .int p4] (WX11_owedFrom E q0 q0_text q0_town q0_weather q0_rule q0_acts q0_real q0_trial q0_round q0_nights q0_before q0_history q0_kept q0_keptHouses q0_shortest q0_tracks q0_tally q0_told q0_trial_state q0_trial_owedBy q0_trial_state_snow q0_trial_state_path q0_trial_state_debt q0_town_hold q0_town_below q0_town_hay q0_rule_code q0_rule_draft q0_rule_stack q0_rule_things q0_weather_inches q1 q1_snow q1_path q1_debt i_toldCount i_trial_owed i_trial_slides i_trial_struck i_trial_slid i_trial_state_now a_trial_state_snow a_trial_state_path a_trial_state_debt a_trial_owedBy i_town_houses i_rule_length i_rule_drafted i_weather_length i_weather_cycle a_town_below a_rule_things a_weather_inches a_town_hold a_rule_stack a_rule_code i_p1_now a_p1_snow a_p1_path a_p1_debt) (WX11_owedFrom E q0 q0_text q0_town q0_weather q0_rule q0_acts q0_real q0_trial q0_round q0_nights q0_before q0_history q0_kept q0_keptHouses q0_shortest q0_tracks q0_tally q0_told q0_trial_state q0_trial_owedBy q0_trial_state_snow q0_trial_state_path q0_trial_state_debt q0_town_hold q0_town_below q0_town_hay q0_rule_code q0_rule_draft q0_rule_stack q0_rule_things q0_weather_inches q1 q1_snow q1_path q1_debt i_toldCount o9.2.1 o9.2.2.1 o9.2.2.2.1 o9.2.2.2.2.1 o9.2.2.2.2.2.1 o9.2.2.2.2.2.2.1 o9.2.2.2.2.2.2.2.1 o9.2.2.2.2.2.2.2.2.1 o9.2.2.2.2.2.2.2.2.2.1 i_town_houses i_rule_length i_rule_drafted i_weather_length i_weather_cycle a_town_below o9.2.2.2.2.2.2.2.2.2.2.1 a_weather_inches a_town_hold o9.2.2.2.2.2.2.2.2.2.2.2 a_rule_code i_p1_now a_p1_snow a_p1_path a_p1_debt) o9.1 := by
  refine begI (by decide +kernel) (Nat.le_of_ble_eq_true rfl) ?_
  intro p e s m args below meth c A Q C hA hret
  have hx := C.1
  have hb := C.2.1
  have J29 : ∀ (v5 : Int32) (i_trial_owed : Int32) (i_trial_slides : Int32) (i_trial_struck : Int32) (i_trial_slid : Int32) (i_trial_state_now : Int32) (a_trial_state_snow : Nat → Int32) (a_trial_state_path : Nat → Int32) (a_trial_state_debt : Nat → Int32) (a_trial_owedBy : Nat → Int32) (a_rule_things : Nat → Int32) (a_rule_stack : Nat → Int32), fX11_owedFrom_J29 i_town_houses i_rule_length i_weather_cycle a_town_below a_weather_inches a_town_hold a_rule_code p3 v5 i_trial_owed i_trial_slides i_trial_struck i_trial_slid i_trial_state_now a_trial_state_snow a_trial_state_path a_trial_state_debt a_trial_owedBy a_rule_things a_rule_stack = some o9 → GO p l e 5 s m args below meth c Q E A 6 29 [] [(0, .ref q0), (3, .int p3), (5, .int v5)] (WX11_owedFrom E q0 q0_text q0_town q0_weather q0_rule q0_acts q0_real q0_trial q0_round q0_nights q0_before q0_history q0_kept q0_keptHouses q0_shortest q0_tracks q0_tally q0_told q0_trial_state q0_trial_owedBy q0_trial_state_snow q0_trial_state_path q0_trial_state_debt q0_town_hold q0_town_below q0_town_hay q0_rule_code q0_rule_draft q0_rule_stack q0_rule_things q0_weather_inches q1 q1_snow q1_path q1_debt i_toldCount i_trial_owed i_trial_slides i_trial_struck i_trial_slid i_trial_state_now a_trial_state_snow a_trial_state_path a_trial_state_debt a_trial_owedBy i_town_houses i_rule_length i_rule_drafted i_weather_length i_weather_cycle a_town_below a_rule_things a_weather_inches a_town_hold a_rule_stack a_rule_code i_p1_now a_p1_snow a_p1_path a_p1_debt) := by
    intro v5 i_trial_owed i_trial_slides i_trial_struck i_trial_slid i_trial_state_now a_trial_state_snow a_trial_state_path a_trial_state_debt a_trial_owedBy a_rule_things a_rule_stack hf H locs ls hl hP hD hS
    unfold fX11_owedFrom_J29 at hf
    refine lv_aload_n hx hb dX11_owedFrom_29 rfl (lv_at hl 0 rfl) ?_
    refine gf_RX11_53 C hP 0 rfl rfl dX11_owedFrom_30 ?_
    refine lv_iload_n hx hb dX11_owedFrom_33 rfl (lv_at hl 1 rfl) ?_
    obtain ⟨o4, hg5, hf⟩ := bd_some hf
    refine k_VV2 (As := [.int p3]) C K_RX11_211 (Nat.le_of_ble_eq_true rfl) (Nat.le_of_ble_eq_true rfl) (kX9_goDays l E q0_trial q0_town q0_weather q0_rule q0_trial_state q0_trial_owedBy q0_trial_state_snow q0_trial_state_path q0_trial_state_debt q0_weather_inches q0_town_hold q0_town_below q0_town_hay q0_rule_code q0_rule_draft q0_rule_stack q0_rule_things i_trial_owed i_trial_slides i_trial_struck i_trial_slid i_trial_state_now i_weather_length i_weather_cycle i_town_houses i_rule_length i_rule_drafted a_weather_inches a_trial_state_snow a_trial_state_path a_town_hold a_town_below a_rule_things a_rule_stack a_rule_code a_trial_state_debt a_trial_owedBy p3 o4.1 o4.2.1 o4.2.2.1 o4.2.2.2.1 o4.2.2.2.2.1 o4.2.2.2.2.2.1 o4.2.2.2.2.2.2.1 o4.2.2.2.2.2.2.2.1 o4.2.2.2.2.2.2.2.2.1 o4.2.2.2.2.2.2.2.2.2.1 o4.2.2.2.2.2.2.2.2.2.2 hg5) [1, 2, 9, 7, 8, 12, 3, 4, 13, 10, 11, 14, 15, 5, 6] rfl rfl rfl (ci := 9) rfl rfl (q0 := 0) rfl hP hD hS hA hl.1 (Nat.le_of_ble_eq_true rfl) rfl dX11_owedFrom_34 (ws2 := (WX11_owedFrom E q0 q0_text q0_town q0_weather q0_rule q0_acts q0_real q0_trial q0_round q0_nights q0_before q0_history q0_kept q0_keptHouses q0_shortest q0_tracks q0_tally q0_told q0_trial_state q0_trial_owedBy q0_trial_state_snow q0_trial_state_path q0_trial_state_debt q0_town_hold q0_town_below q0_town_hay q0_rule_code q0_rule_draft q0_rule_stack q0_rule_things q0_weather_inches q1 q1_snow q1_path q1_debt i_toldCount o4.1 o4.2.1 o4.2.2.1 o4.2.2.2.1 o4.2.2.2.2.1 o4.2.2.2.2.2.1 o4.2.2.2.2.2.2.1 o4.2.2.2.2.2.2.2.2.2.1 o4.2.2.2.2.2.2.2.2.2.2 i_town_houses i_rule_length i_rule_drafted i_weather_length i_weather_cycle a_town_below o4.2.2.2.2.2.2.2.1 a_weather_inches a_town_hold o4.2.2.2.2.2.2.2.2.1 a_rule_code i_p1_now a_p1_snow a_p1_path a_p1_debt)) 20 [0, 16, 17, 18, 19] rfl rfl rfl rfl (by decide +kernel) (fun H locs hP hD hS => ?_)
    refine lv_aload_n hx hb dX11_owedFrom_37 rfl (lv_at hl 0 rfl) ?_
    refine gf_RX11_53 C hP 0 rfl rfl dX11_owedFrom_38 ?_
    refine gf_RX11_335 C hP 1 rfl rfl dX11_owedFrom_41 ?_
    refine lv_iload hx hb dX11_owedFrom_44 (lv_at hl 2 rfl) ?_
    obtain ⟨g6, hf⟩ := gd_some hf
    refine va_iald hx hb C.2.2.2.2.2.1 hP 6 0 rfl rfl (vin_in g6) dX11_owedFrom_46 ?_
    have hj0 := Option.some.inj hf
    subst hj0
    exact hret _ _ _ _ dX11_owedFrom_47 rfl hP hD hS
  intro H locs ls hl hP hD hS
  have hl : lv_has ls 6 [(0, .ref q0), (1, .ref q1), (2, .int p2), (3, .int p3), (4, .int p4)] := hl
  unfold fX11_owedFrom at hf
  refine lv_iload_n hx hb dX11_owedFrom_0 rfl (lv_at hl 2 rfl) ?_
  refine lv_iconst (v := 2) hx hb dX11_owedFrom_1 (by decide) ?_
  refine lv_idiv hx hb dX11_owedFrom_2 (by decide) ?_
  refine lv_istore (lv' := [(5, .int ((p2 / 2))), (0, .ref q0), (1, .ref q1), (2, .int p2), (3, .int p3), (4, .int p4)]) hx hb dX11_owedFrom_3 hl (by decide) rfl (fun ls hl => ?_)
  refine lv_aload_n hx hb dX11_owedFrom_5 rfl (lv_at hl 1 rfl) ?_
  refine gf_RX11_53 C hP 0 rfl rfl dX11_owedFrom_6 ?_
  refine lv_aload_n hx hb dX11_owedFrom_9 rfl (lv_at hl 2 rfl) ?_
  obtain ⟨o1, hg2, hf⟩ := bd_some hf
  refine k_VV2 (As := [.ref q1]) C K_RX11_337 (Nat.le_of_ble_eq_true rfl) (Nat.le_of_ble_eq_true rfl) (kX9_beginAt l E q0_trial q0_town q0_weather q0_rule q0_trial_state q0_trial_owedBy q0_trial_state_snow q0_trial_state_path q0_trial_state_debt q1 q1_snow q1_path q1_debt i_trial_owed i_trial_slides i_trial_struck i_trial_slid i_trial_state_now a_trial_state_snow a_trial_state_path a_trial_state_debt a_trial_owedBy i_p1_now a_p1_snow a_p1_path a_p1_debt o1.1 o1.2.1 o1.2.2.1 o1.2.2.2.1 o1.2.2.2.2.1 o1.2.2.2.2.2.1 o1.2.2.2.2.2.2.1 o1.2.2.2.2.2.2.2.1 o1.2.2.2.2.2.2.2.2 hg2) [1, 2, 3, 4, 5, 6, 16, 17, 18, 19] rfl rfl rfl (ci := 9) rfl rfl (q0 := 0) rfl hP hD hS hA hl.1 (Nat.le_of_ble_eq_true rfl) rfl dX11_owedFrom_10 (ws2 := (WX11_owedFrom E q0 q0_text q0_town q0_weather q0_rule q0_acts q0_real q0_trial q0_round q0_nights q0_before q0_history q0_kept q0_keptHouses q0_shortest q0_tracks q0_tally q0_told q0_trial_state q0_trial_owedBy q0_trial_state_snow q0_trial_state_path q0_trial_state_debt q0_town_hold q0_town_below q0_town_hay q0_rule_code q0_rule_draft q0_rule_stack q0_rule_things q0_weather_inches q1 q1_snow q1_path q1_debt i_toldCount o1.1 o1.2.1 o1.2.2.1 o1.2.2.2.1 o1.2.2.2.2.1 o1.2.2.2.2.2.1 o1.2.2.2.2.2.2.1 o1.2.2.2.2.2.2.2.1 o1.2.2.2.2.2.2.2.2 i_town_houses i_rule_length i_rule_drafted i_weather_length i_weather_cycle a_town_below a_rule_things a_weather_inches a_town_hold a_rule_stack a_rule_code i_p1_now a_p1_snow a_p1_path a_p1_debt)) 20 [0, 7, 8, 9, 10, 11, 12, 13, 14, 15] rfl rfl rfl rfl (by decide +kernel) (fun H locs hP hD hS => ?_)
  refine lv_iload hx hb dX11_owedFrom_13 (lv_at hl 5 rfl) ?_
  refine lv_if_eq (tgt := 29) hx hb dX11_owedFrom_15 (by decide) (fun c3 => ?_) (fun c3 => ?_)
  · rw [if_pos c3] at hf
    exact J29 ((p2 / 2)) o1.1 o1.2.1 o1.2.2.1 o1.2.2.2.1 o1.2.2.2.2.1 o1.2.2.2.2.2.1 o1.2.2.2.2.2.2.1 o1.2.2.2.2.2.2.2.1 o1.2.2.2.2.2.2.2.2 a_rule_things a_rule_stack hf _ _ _ (lv_sub hl [1, 4, 0] rfl) hP hD hS
  · rw [if_neg c3] at hf
    refine lv_aload_n hx hb dX11_owedFrom_18 rfl (lv_at hl 1 rfl) ?_
    refine gf_RX11_53 C hP 0 rfl rfl dX11_owedFrom_19 ?_
    refine lv_iload_n hx hb dX11_owedFrom_22 rfl (lv_at hl 3 rfl) ?_
    refine lv_iload hx hb dX11_owedFrom_23 (lv_at hl 0 rfl) ?_
    refine lv_iconst (v := 1) hx hb dX11_owedFrom_25 (by decide) ?_
    obtain ⟨o7, hg8, hf⟩ := bd_some hf
    refine k_VV2 (As := [.int p2, .int ((p2 / 2)), .int 1]) C K_RX11_270 (Nat.le_of_ble_eq_true rfl) (Nat.le_of_ble_eq_true rfl) (kX9_slideOff l E q0_trial q0_town q0_weather q0_rule q0_trial_state q0_trial_owedBy q0_town_hold q0_town_below q0_town_hay q0_trial_state_snow q0_trial_state_path q0_trial_state_debt q0_rule_code q0_rule_draft q0_rule_stack q0_rule_things q0_weather_inches o1.1 o1.2.1 o1.2.2.1 o1.2.2.2.1 i_town_houses a_town_below o1.2.2.2.2.1 o1.2.2.2.2.2.1 o1.2.2.2.2.2.2.1 i_rule_length i_rule_drafted a_rule_things i_weather_length i_weather_cycle a_weather_inches a_town_hold a_rule_stack a_rule_code o1.2.2.2.2.2.2.2.1 o1.2.2.2.2.2.2.2.2 p2 ((p2 / 2)) 1 o7.1 o7.2.1 o7.2.2.1 o7.2.2.2.1 o7.2.2.2.2.1 o7.2.2.2.2.2.1 o7.2.2.2.2.2.2 hg8) [1, 7, 10, 2, 3, 4, 8, 11, 9, 12, 13, 14, 15, 5, 6] rfl rfl rfl (ci := 9) rfl rfl (q0 := 0) rfl hP hD hS hA hl.1 (Nat.le_of_ble_eq_true rfl) rfl dX11_owedFrom_26 (ws2 := (WX11_owedFrom E q0 q0_text q0_town q0_weather q0_rule q0_acts q0_real q0_trial q0_round q0_nights q0_before q0_history q0_kept q0_keptHouses q0_shortest q0_tracks q0_tally q0_told q0_trial_state q0_trial_owedBy q0_trial_state_snow q0_trial_state_path q0_trial_state_debt q0_town_hold q0_town_below q0_town_hay q0_rule_code q0_rule_draft q0_rule_stack q0_rule_things q0_weather_inches q1 q1_snow q1_path q1_debt i_toldCount o7.1 o1.2.1 o1.2.2.1 o1.2.2.2.1 o1.2.2.2.2.1 o7.2.1 o7.2.2.1 o7.2.2.2.2.2.1 o7.2.2.2.2.2.2 i_town_houses i_rule_length i_rule_drafted i_weather_length i_weather_cycle a_town_below o7.2.2.2.1 a_weather_inches a_town_hold o7.2.2.2.2.1 a_rule_code i_p1_now a_p1_snow a_p1_path a_p1_debt)) 20 [0, 16, 17, 18, 19] rfl rfl rfl rfl (by decide +kernel) (fun H locs hP hD hS => ?_)
    exact J29 ((p2 / 2)) o7.1 o1.2.1 o1.2.2.1 o1.2.2.2.1 o1.2.2.2.2.1 o7.2.1 o7.2.2.1 o7.2.2.2.2.2.1 o7.2.2.2.2.2.2 o7.2.2.2.1 o7.2.2.2.2.1 hf _ _ _ (lv_sub hl [1, 4, 0] rfl) hP hD hS
theorem K_RX11_377 : KV RX11 377 yX11_owedFrom cX11_owedFrom 6 (some .int) 4 := ⟨Tg_mem 1144 (by decide +kernel) (by decide +kernel), Tg_mem 90 (by decide +kernel) (by decide +kernel), Tg_mem 1141 (by decide +kernel) (by decide +kernel), Tg_mem 1143 (by decide +kernel) (by decide +kernel), Tg_mem 36 (by decide +kernel) (by decide +kernel), by decide +kernel⟩
