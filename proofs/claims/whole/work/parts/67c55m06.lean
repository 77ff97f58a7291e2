theorem dX11_deepest_0 : decode cX11_deepest 0 = .ok (.aload_n 0, 1) := by decide +kernel
theorem dX11_deepest_1 : decode cX11_deepest 1 = .ok (.getfield 19, 3) := by decide +kernel
theorem dX11_deepest_4 : decode cX11_deepest 4 = .ok (.iload_n 1, 1) := by decide +kernel
theorem dX11_deepest_5 : decode cX11_deepest 5 = .ok (.invokevirtual 139, 3) := by decide +kernel
theorem dX11_deepest_8 : decode cX11_deepest 8 = .ok (.ifCond .eq 13, 3) := by decide +kernel
theorem dX11_deepest_11 : decode cX11_deepest 11 = .ok (.iload_n 2, 1) := by decide +kernel
theorem dX11_deepest_12 : decode cX11_deepest 12 = .ok (.iconst 0, 1) := by decide +kernel
theorem dX11_deepest_13 : decode cX11_deepest 13 = .ok (.bipush 60, 2) := by decide +kernel
theorem dX11_deepest_15 : decode cX11_deepest 15 = .ok (.invokestatic 128, 3) := by decide +kernel
theorem dX11_deepest_18 : decode cX11_deepest 18 = .ok (.ifCond .ne 5, 3) := by decide +kernel
theorem dX11_deepest_21 : decode cX11_deepest 21 = .ok (.iconst (-1), 1) := by decide +kernel
theorem dX11_deepest_22 : decode cX11_deepest 22 = .ok (.ireturn, 1) := by decide +kernel
theorem dX11_deepest_23 : decode cX11_deepest 23 = .ok (.aload_n 0, 1) := by decide +kernel
theorem dX11_deepest_24 : decode cX11_deepest 24 = .ok (.getfield 49, 3) := by decide +kernel
theorem dX11_deepest_27 : decode cX11_deepest 27 = .ok (.getfield 148, 3) := by decide +kernel
theorem dX11_deepest_30 : decode cX11_deepest 30 = .ok (.getfield 154, 3) := by decide +kernel
theorem dX11_deepest_33 : decode cX11_deepest 33 = .ok (.iload_n 1, 1) := by decide +kernel
theorem dX11_deepest_34 : decode cX11_deepest 34 = .ok (.iaload, 1) := by decide +kernel
theorem dX11_deepest_35 : decode cX11_deepest 35 = .ok (.istore_n 3, 1) := by decide +kernel
theorem dX11_deepest_36 : decode cX11_deepest 36 = .ok (.iconst 0, 1) := by decide +kernel
theorem dX11_deepest_37 : decode cX11_deepest 37 = .ok (.istore 4, 2) := by decide +kernel
theorem dX11_deepest_39 : decode cX11_deepest 39 = .ok (.aload_n 0, 1) := by decide +kernel
theorem dX11_deepest_40 : decode cX11_deepest 40 = .ok (.getfield 53, 3) := by decide +kernel
theorem dX11_deepest_43 : decode cX11_deepest 43 = .ok (.aload_n 0, 1) := by decide +kernel
theorem dX11_deepest_44 : decode cX11_deepest 44 = .ok (.getfield 49, 3) := by decide +kernel
theorem dX11_deepest_47 : decode cX11_deepest 47 = .ok (.getfield 148, 3) := by decide +kernel
theorem dX11_deepest_50 : decode cX11_deepest 50 = .ok (.invokevirtual 337, 3) := by decide +kernel
theorem dX11_deepest_53 : decode cX11_deepest 53 = .ok (.iconst 1, 1) := by decide +kernel
theorem dX11_deepest_54 : decode cX11_deepest 54 = .ok (.istore 5, 2) := by decide +kernel
theorem dX11_deepest_56 : decode cX11_deepest 56 = .ok (.iload 5, 2) := by decide +kernel
theorem dX11_deepest_58 : decode cX11_deepest 58 = .ok (.iload_n 2, 1) := by decide +kernel
theorem dX11_deepest_59 : decode cX11_deepest 59 = .ok (.if_icmp .gt 49, 3) := by decide +kernel
theorem dX11_deepest_62 : decode cX11_deepest 62 = .ok (.aload_n 0, 1) := by decide +kernel
theorem dX11_deepest_63 : decode cX11_deepest 63 = .ok (.getfield 53, 3) := by decide +kernel
theorem dX11_deepest_66 : decode cX11_deepest 66 = .ok (.invokevirtual 340, 3) := by decide +kernel
theorem dX11_deepest_69 : decode cX11_deepest 69 = .ok (.aload_n 0, 1) := by decide +kernel
theorem dX11_deepest_70 : decode cX11_deepest 70 = .ok (.getfield 53, 3) := by decide +kernel
theorem dX11_deepest_73 : decode cX11_deepest 73 = .ok (.getfield 148, 3) := by decide +kernel
theorem dX11_deepest_76 : decode cX11_deepest 76 = .ok (.getfield 154, 3) := by decide +kernel
theorem dX11_deepest_79 : decode cX11_deepest 79 = .ok (.iload_n 1, 1) := by decide +kernel
theorem dX11_deepest_80 : decode cX11_deepest 80 = .ok (.iaload, 1) := by decide +kernel
theorem dX11_deepest_81 : decode cX11_deepest 81 = .ok (.iload_n 3, 1) := by decide +kernel
theorem dX11_deepest_82 : decode cX11_deepest 82 = .ok (.if_icmp .le 20, 3) := by decide +kernel
theorem dX11_deepest_85 : decode cX11_deepest 85 = .ok (.aload_n 0, 1) := by decide +kernel
theorem dX11_deepest_86 : decode cX11_deepest 86 = .ok (.getfield 53, 3) := by decide +kernel
theorem dX11_deepest_89 : decode cX11_deepest 89 = .ok (.getfield 148, 3) := by decide +kernel
theorem dX11_deepest_92 : decode cX11_deepest 92 = .ok (.getfield 154, 3) := by decide +kernel
theorem dX11_deepest_95 : decode cX11_deepest 95 = .ok (.iload_n 1, 1) := by decide +kernel
theorem dX11_deepest_96 : decode cX11_deepest 96 = .ok (.iaload, 1) := by decide +kernel
theorem dX11_deepest_97 : decode cX11_deepest 97 = .ok (.istore_n 3, 1) := by decide +kernel
theorem dX11_deepest_98 : decode cX11_deepest 98 = .ok (.iload 5, 2) := by decide +kernel
theorem dX11_deepest_100 : decode cX11_deepest 100 = .ok (.istore 4, 2) := by decide +kernel
theorem dX11_deepest_102 : decode cX11_deepest 102 = .ok (.iinc 5 1, 3) := by decide +kernel
theorem dX11_deepest_105 : decode cX11_deepest 105 = .ok (.goto (-49), 3) := by decide +kernel
theorem dX11_deepest_108 : decode cX11_deepest 108 = .ok (.aload_n 0, 1) := by decide +kernel
theorem dX11_deepest_109 : decode cX11_deepest 109 = .ok (.iload 4, 2) := by decide +kernel
theorem dX11_deepest_111 : decode cX11_deepest 111 = .ok (.invokevirtual 244, 3) := by decide +kernel
theorem dX11_deepest_114 : decode cX11_deepest 114 = .ok (.iload_n 3, 1) := by decide +kernel
theorem dX11_deepest_115 : decode cX11_deepest 115 = .ok (.ireturn, 1) := by decide +kernel
def WX11_deepest (E : ENV) (q0 : Nat) (q0_text : Nat) (q0_town : Nat) (q0_weather : Nat) (q0_rule : Nat) (q0_acts : Nat) (q0_real : Nat) (q0_trial : Nat) (q0_round : Nat) (q0_nights : Nat) (q0_before : Nat) (q0_history : Nat) (q0_kept : Nat) (q0_keptHouses : Nat) (q0_shortest : Nat) (q0_tracks : Nat) (q0_tally : Nat) (q0_told : Nat) (q0_town_hold : Nat) (q0_town_below : Nat) (q0_town_hay : Nat) (q0_real_state : Nat) (q0_real_owedBy : Nat) (q0_real_state_snow : Nat) (q0_real_state_path : Nat) (q0_real_state_debt : Nat) (q0_trial_state : Nat) (q0_trial_owedBy : Nat) (q0_trial_state_snow : Nat) (q0_trial_state_path : Nat) (q0_trial_state_debt : Nat) (q0_weather_inches : Nat) (q0_rule_code : Nat) (q0_rule_draft : Nat) (q0_rule_stack : Nat) (q0_rule_things : Nat) (i_toldCount : Int32) (i_town_houses : Int32) (i_real_owed : Int32) (i_real_slides : Int32) (i_real_struck : Int32) (i_real_slid : Int32) (i_real_state_now : Int32) (a_real_state_path : Nat → Int32) (i_trial_owed : Int32) (i_trial_slides : Int32) (i_trial_struck : Int32) (i_trial_slid : Int32) (i_trial_state_now : Int32) (a_trial_state_snow : Nat → Int32) (a_trial_state_path : Nat → Int32) (a_trial_state_debt : Nat → Int32) (a_trial_owedBy : Nat → Int32) (a_real_state_snow : Nat → Int32) (a_real_state_debt : Nat → Int32) (i_weather_length : Int32) (i_weather_cycle : Int32) (i_rule_length : Int32) (i_rule_drafted : Int32) (a_weather_inches : Nat → Int32) (a_town_hold : Nat → Int32) (a_town_below : Nat → Int32) (a_rule_things : Nat → Int32) (a_rule_stack : Nat → Int32) (a_rule_code : Nat → Int32) (a_told : Nat → Int32) : va_W := [(q0, .inr (11, [.ref q0_text, .ref q0_town, .ref q0_weather, .ref q0_rule, .ref q0_acts, .ref q0_real, .ref q0_trial, .ref q0_round, .ref q0_nights, .ref q0_before, .ref q0_history, .ref q0_kept, .ref q0_keptHouses, .ref q0_shortest, .ref q0_tracks, .ref q0_tally, .ref q0_told, .int i_toldCount])), (q0_town, .inr (7, [.ref q0_town_hold, .ref q0_town_below, .ref q0_town_hay, .int i_town_houses])), (q0_real, .inr (9, [.ref q0_town, .ref q0_weather, .ref q0_rule, .ref q0_real_state, .ref q0_real_owedBy, .int i_real_owed, .int i_real_slides, .int i_real_struck, .int i_real_slid])), (q0_real_state, .inr (5, [.ref q0_real_state_snow, .ref q0_real_state_path, .ref q0_real_state_debt, .int i_real_state_now])), (q0_real_state_path, .inl (E.2.1, 7, .inl a_real_state_path)), (q0_trial, .inr (9, [.ref q0_town, .ref q0_weather, .ref q0_rule, .ref q0_trial_state, .ref q0_trial_owedBy, .int i_trial_owed, .int i_trial_slides, .int i_trial_struck, .int i_trial_slid])), (q0_trial_state, .inr (5, [.ref q0_trial_state_snow, .ref q0_trial_state_path, .ref q0_trial_state_debt, .int i_trial_state_now])), (q0_trial_state_snow, .inl (E.2.1, 14, .inl a_trial_state_snow)), (q0_trial_state_path, .inl (E.2.1, 7, .inl a_trial_state_path)), (q0_trial_state_debt, .inl (E.2.1, 49, .inl a_trial_state_debt)), (q0_trial_owedBy, .inl (E.2.1, 7, .inl a_trial_owedBy)), (q0_real_state_snow, .inl (E.2.1, 14, .inl a_real_state_snow)), (q0_real_state_debt, .inl (E.2.1, 49, .inl a_real_state_debt)), (q0_weather, .inr (10, [.ref q0_weather_inches, .int i_weather_length, .int i_weather_cycle])), (q0_rule, .inr (4, [.ref q0_rule_code, .ref q0_rule_draft, .ref q0_rule_stack, .ref q0_rule_things, .int i_rule_length, .int i_rule_drafted])), (q0_weather_inches, .inl (E.2.1, 40, .inl a_weather_inches)), (q0_town_hold, .inl (E.2.1, 7, .inl a_town_hold)), (q0_town_below, .inl (E.2.1, 14, .inl a_town_below)), (q0_rule_things, .inl (E.2.1, 8, .inl a_rule_things)), (q0_rule_stack, .inl (E.2.1, 40, .inl a_rule_stack)), (q0_rule_code, .inl (E.2.1, 40, .inl a_rule_code)), (q0_told, .inl (E.2.1, 8, .inl a_told))]
set_option maxHeartbeats 4000000 in
set_option maxRecDepth 20000 in
theorem kX11_deepest (l : Launch) (E : ENV) (q0 : Nat) (q0_text : Nat) (q0_town : Nat) (q0_weather : Nat) (q0_rule : Nat) (q0_acts : Nat) (q0_real : Nat) (q0_trial : Nat) (q0_round : Nat) (q0_nights : Nat) (q0_before : Nat) (q0_history : Nat) (q0_kept : Nat) (q0_keptHouses : Nat) (q0_shortest : Nat) (q0_tracks : Nat) (q0_tally : Nat) (q0_told : Nat) (q0_town_hold : Nat) (q0_town_below : Nat) (q0_town_hay : Nat) (q0_real_state : Nat) (q0_real_owedBy : Nat) (q0_real_state_snow : Nat) (q0_real_state_path : Nat) (q0_real_state_debt : Nat) (q0_trial_state : Nat) (q0_trial_owedBy : Nat) (q0_trial_state_snow : Nat) (q0_trial_state_path : Nat) (q0_trial_state_debt : Nat) (q0_weather_inches : Nat) (q0_rule_code : Nat) (q0_rule_draft : Nat) (q0_rule_stack : Nat) (q0_rule_things : Nat) (i_toldCount : Int32) (i_town_houses : Int32) (i_real_owed : Int32) (i_real_slides : Int32) (i_real_struck : Int32) (i_real_slid : Int32) (i_real_state_now : Int32) (a_real_state_path : Nat → Int32) (i_trial_owed : Int32) (i_trial_slides : Int32) (i_trial_struck : Int32) (i_trial_slid : Int32) (i_trial_state_now : Int32) (a_trial_state_snow : Nat → Int32) (a_trial_state_path : Nat → Int32) (a_trial_state_debt : Nat → Int32) (a_trial_owedBy : Nat → Int32) (a_real_state_snow : Nat → Int32) (a_real_state_debt : Nat → Int32) (i_weather_length : Int32) (i_weather_cycle : Int32) (i_rule_length : Int32) (i_rule_drafted : Int32) (a_weather_inches : Nat → Int32) (a_town_hold : Nat → Int32) (a_town_below : Nat → Int32) (a_rule_things : Nat → Int32) (a_rule_stack : Nat → Int32) (a_rule_code : Nat → Int32) (a_told : Nat → Int32) (p1 : Int32) (p2 : Int32) (o9 : Int32 × Int32 × Int32 × Int32 × Int32 × Int32 × Int32 × (Nat → Int32) × (Nat → Int32) × (Nat → Int32) × (Nat → Int32) × (Nat → Int32) × (Nat → Int32) × (Nat → Int32)) (hf : fX11_deepest i_toldCount i_town_houses i_real_state_now a_real_state_path i_trial_owed i_trial_slides i_trial_struck i_trial_slid i_trial_state_now a_trial_state_snow a_trial_state_path a_trial_state_debt a_trial_owedBy a_real_state_snow a_real_state_debt i_weather_cycle i_rule_length a_weather_inches a_town_hold a_town_below a_rule_things a_rule_stack a_rule_code a_told p1 p2 = some o9) : CI l E yX11_deepest cX11_deepest 6 (some .int) 4 [.ref q0, .int p1, .int p2] (WX11_deepest E q0 q0_text q0_town q0_weather q0_rule q0_acts q0_real q0_trial q0_round q0_nights q0_before q0_history q0_kept q0_keptHouses q0_shortest q0_tracks q0_tally q0_told q0_town_hold q0_town_below q0_town_hay q0_real_state q0_real_owedBy q0_real_state_snow q0_real_state_path q0_real_state_debt q0_trial_state q0_trial_owedBy q0_trial_state_snow q0_trial_state_path q0_trial_state_debt q0_weather_inches q0_rule_code q0_rule_draft q0_rule_stack q0_rule_things i_toldCount i_town_houses i_real_owed i_real_slides i_real_struck i_real_slid i_real_state_now a_real_state_path i_trial_owed i_trial_slides i_trial_struck i_trial_slid i_trial_state_now a_trial_state_snow a_trial_state_path a_trial_state_debt a_trial_owedBy a_real_state_snow a_real_state_debt i_weather_length i_weather_cycle i_rule_length i_rule_drafted a_weather_inches a_town_hold a_town_below a_rule_things a_rule_stack a_rule_code a_told) (WX11_deepest E q0 q0_text q0_town q0_weather q0_rule q0_acts q0_real q0_trial q0_round q0_nights q0_before q0_history q0_kept q0_keptHouses q0_shortest q0_tracks q0_tally q0_told q0_town_hold q0_town_below q0_town_hay q0_real_state q0_real_owedBy q0_real_state_snow q0_real_state_path q0_real_state_debt q0_trial_state q0_trial_owedBy q0_trial_state_snow q0_trial_state_path q0_trial_state_debt q0_weather_inches q0_rule_code q0_rule_draft q0_rule_stack q0_rule_things o9.2.1 i_town_houses i_real_owed i_real_slides i_real_struck i_real_slid i_real_state_now a_real_state_path o9.2.2.1 o9.2.2.2.1 o9.2.2.2.2.1 o9.2.2.2.2.2.1 o9.2.2.2.2.2.2.1 o9.2.2.2.2.2.2.2.1 o9.2.2.2.2.2.2.2.2.1 o9.2.2.2.2.2.2.2.2.2.1 o9.2.2.2.2.2.2.2.2.2.2.1 a_real_state_snow a_real_state_debt i_weather_length i_weather_cycle i_rule_length i_rule_drafted a_weather_inches a_town_hold a_town_below o9.2.2.2.2.2.2.2.2.2.2.2.1 o9.2.2.2.2.2.2.2.2.2.2.2.2.1 a_rule_code o9.2.2.2.2.2.2.2.2.2.2.2.2.2) o9.1 := by
  refine begI (by decide +kernel) (Nat.le_of_ble_eq_true rfl) ?_
  intro p e s m args below meth c A Q C hA hret
  have hx := C.1
  have hb := C.2.1
  have L56 : ∀ (i_toldCount : Int32) (a_told : Nat → Int32), ∀ (n : Nat) (v3 : Int32) (v4 : Int32) (v5 : Int32) (i_trial_owed : Int32) (i_trial_slides : Int32) (i_trial_struck : Int32) (i_trial_slid : Int32) (i_trial_state_now : Int32) (a_trial_state_snow : Nat → Int32) (a_trial_state_path : Nat → Int32) (a_trial_state_debt : Nat → Int32) (a_trial_owedBy : Nat → Int32) (a_rule_things : Nat → Int32) (a_rule_stack : Nat → Int32) (o : Int32 × Int32 × Int32 × Int32 × Int32 × Int32 × Int32 × (Nat → Int32) × (Nat → Int32) × (Nat → Int32) × (Nat → Int32) × (Nat → Int32) × (Nat → Int32)), fX11_deepest_L56 i_town_houses i_weather_cycle i_rule_length a_weather_inches a_town_hold a_town_below a_rule_code p1 p2 n v3 v4 v5 i_trial_owed i_trial_slides i_trial_struck i_trial_slid i_trial_state_now a_trial_state_snow a_trial_state_path a_trial_state_debt a_trial_owedBy a_rule_things a_rule_stack = some o → (GO p l e 4 s m args below meth c Q E A 6 108 [] [(0, .ref q0), (3, .int o.1), (4, .int o.2.1)] (WX11_deepest E q0 q0_text q0_town q0_weather q0_rule q0_acts q0_real q0_trial q0_round q0_nights q0_before q0_history q0_kept q0_keptHouses q0_shortest q0_tracks q0_tally q0_told q0_town_hold q0_town_below q0_town_hay q0_real_state q0_real_owedBy q0_real_state_snow q0_real_state_path q0_real_state_debt q0_trial_state q0_trial_owedBy q0_trial_state_snow q0_trial_state_path q0_trial_state_debt q0_weather_inches q0_rule_code q0_rule_draft q0_rule_stack q0_rule_things i_toldCount i_town_houses i_real_owed i_real_slides i_real_struck i_real_slid i_real_state_now a_real_state_path o.2.2.1 o.2.2.2.1 o.2.2.2.2.1 o.2.2.2.2.2.1 o.2.2.2.2.2.2.1 o.2.2.2.2.2.2.2.1 o.2.2.2.2.2.2.2.2.1 o.2.2.2.2.2.2.2.2.2.1 o.2.2.2.2.2.2.2.2.2.2.1 a_real_state_snow a_real_state_debt i_weather_length i_weather_cycle i_rule_length i_rule_drafted a_weather_inches a_town_hold a_town_below o.2.2.2.2.2.2.2.2.2.2.2.1 o.2.2.2.2.2.2.2.2.2.2.2.2 a_rule_code a_told)) → GO p l e 4 s m args below meth c Q E A 6 56 [] [(0, .ref q0), (1, .int p1), (2, .int p2), (3, .int v3), (4, .int v4), (5, .int v5)] (WX11_deepest E q0 q0_text q0_town q0_weather q0_rule q0_acts q0_real q0_trial q0_round q0_nights q0_before q0_history q0_kept q0_keptHouses q0_shortest q0_tracks q0_tally q0_told q0_town_hold q0_town_below q0_town_hay q0_real_state q0_real_owedBy q0_real_state_snow q0_real_state_path q0_real_state_debt q0_trial_state q0_trial_owedBy q0_trial_state_snow q0_trial_state_path q0_trial_state_debt q0_weather_inches q0_rule_code q0_rule_draft q0_rule_stack q0_rule_things i_toldCount i_town_houses i_real_owed i_real_slides i_real_struck i_real_slid i_real_state_now a_real_state_path i_trial_owed i_trial_slides i_trial_struck i_trial_slid i_trial_state_now a_trial_state_snow a_trial_state_path a_trial_state_debt a_trial_owedBy a_real_state_snow a_real_state_debt i_weather_length i_weather_cycle i_rule_length i_rule_drafted a_weather_inches a_town_hold a_town_below a_rule_things a_rule_stack a_rule_code a_told) := by
    intro i_toldCount a_told
    intro n
    induction n with
    | zero =>
      intro v3 v4 v5 i_trial_owed i_trial_slides i_trial_struck i_trial_slid i_trial_state_now a_trial_state_snow a_trial_state_path a_trial_state_debt a_trial_owedBy a_rule_things a_rule_stack o hf
      have hf : none = some o := hf
      cases hf
    | succ n ih =>
      intro v3 v4 v5 i_trial_owed i_trial_slides i_trial_struck i_trial_slid i_trial_state_now a_trial_state_snow a_trial_state_path a_trial_state_debt a_trial_owedBy a_rule_things a_rule_stack o hf hE
      intro H locs ls hl hP hD hS
      rw [fX11_deepest_L56] at hf
      refine lv_iload hx hb dX11_deepest_56 (lv_at hl 5 rfl) ?_
      refine lv_iload_n hx hb dX11_deepest_58 rfl (lv_at hl 2 rfl) ?_
      refine lv_icmp_gt (tgt := 108) hx hb dX11_deepest_59 (by decide) (fun c10 => ?_) (fun c10 => ?_)
      · rw [if_pos c10] at hf
        have hf := Option.some.inj hf
        subst hf
        exact hE _ _ _ (lv_sub hl [0, 3, 4] rfl) hP hD hS
      · rw [if_neg c10] at hf
        refine lv_aload_n hx hb dX11_deepest_62 rfl (lv_at hl 0 rfl) ?_
        refine gf_RX11_53 C hP 0 rfl rfl dX11_deepest_63 ?_
        obtain ⟨o11, hg12, hf⟩ := bd_some hf
        refine k_VV2 (As := []) C K_RX11_340 (Nat.le_of_ble_eq_true rfl) (Nat.le_of_ble_eq_true rfl) (kX9_goDay l E q0_trial q0_town q0_weather q0_rule q0_trial_state q0_trial_owedBy q0_trial_state_snow q0_trial_state_path q0_trial_state_debt q0_weather_inches q0_town_hold q0_town_below q0_town_hay q0_rule_code q0_rule_draft q0_rule_stack q0_rule_things i_trial_owed i_trial_slides i_trial_struck i_trial_slid i_trial_state_now i_weather_length i_weather_cycle a_weather_inches i_town_houses a_trial_state_snow a_trial_state_path a_town_hold a_town_below i_rule_length i_rule_drafted a_rule_things a_rule_stack a_rule_code a_trial_state_debt a_trial_owedBy o11.1 o11.2.1 o11.2.2.1 o11.2.2.2.1 o11.2.2.2.2.1 o11.2.2.2.2.2.1 o11.2.2.2.2.2.2.1 o11.2.2.2.2.2.2.2.1 o11.2.2.2.2.2.2.2.2.1 o11.2.2.2.2.2.2.2.2.2.1 o11.2.2.2.2.2.2.2.2.2.2 hg12) [5, 6, 13, 15, 1, 7, 8, 16, 17, 14, 18, 19, 20, 9, 10] rfl rfl rfl (ci := 9) rfl rfl (q0 := 0) rfl hP hD hS hA hl.1 (Nat.le_of_ble_eq_true rfl) rfl dX11_deepest_66 (ws2 := (WX11_deepest E q0 q0_text q0_town q0_weather q0_rule q0_acts q0_real q0_trial q0_round q0_nights q0_before q0_history q0_kept q0_keptHouses q0_shortest q0_tracks q0_tally q0_told q0_town_hold q0_town_below q0_town_hay q0_real_state q0_real_owedBy q0_real_state_snow q0_real_state_path q0_real_state_debt q0_trial_state q0_trial_owedBy q0_trial_state_snow q0_trial_state_path q0_trial_state_debt q0_weather_inches q0_rule_code q0_rule_draft q0_rule_stack q0_rule_things i_toldCount i_town_houses i_real_owed i_real_slides i_real_struck i_real_slid i_real_state_now a_real_state_path o11.1 o11.2.1 o11.2.2.1 o11.2.2.2.1 o11.2.2.2.2.1 o11.2.2.2.2.2.1 o11.2.2.2.2.2.2.1 o11.2.2.2.2.2.2.2.2.2.1 o11.2.2.2.2.2.2.2.2.2.2 a_real_state_snow a_real_state_debt i_weather_length i_weather_cycle i_rule_length i_rule_drafted a_weather_inches a_town_hold a_town_below o11.2.2.2.2.2.2.2.1 o11.2.2.2.2.2.2.2.2.1 a_rule_code a_told)) 22 [0, 2, 3, 4, 11, 12, 21] rfl rfl rfl rfl (by decide +kernel) (fun H locs hP hD hS => ?_)
        refine lv_aload_n hx hb dX11_deepest_69 rfl (lv_at hl 0 rfl) ?_
        refine gf_RX11_53 C hP 0 rfl rfl dX11_deepest_70 ?_
        refine gf_RX11_148 C hP 5 rfl rfl dX11_deepest_73 ?_
        refine gf_RX11_154 C hP 6 rfl rfl dX11_deepest_76 ?_
        refine lv_iload_n hx hb dX11_deepest_79 rfl (lv_at hl 1 rfl) ?_
        obtain ⟨g13, hf⟩ := gd_some hf
        refine va_iald hx hb C.2.2.2.2.2.1 hP 8 0 rfl rfl (vin_in g13) dX11_deepest_80 ?_
        refine lv_iload_n hx hb dX11_deepest_81 rfl (lv_at hl 3 rfl) ?_
        refine lv_icmp_le (tgt := 102) hx hb dX11_deepest_82 (by decide) (fun c14 => ?_) (fun c14 => ?_)
        · rw [if_pos c14] at hf
          refine lv_iinc (v := (v5 + 1)) (lv' := [(5, .int ((v5 + 1))), (0, .ref q0), (1, .int p1), (2, .int p2), (3, .int v3), (4, .int v4)]) hx hb dX11_deepest_102 hl (k := 5) rfl rfl (by decide) rfl (fun ls hl => ?_)
          refine lv_goto (tgt := 56) hx hb dX11_deepest_105 (by decide) ?_
          exact ih v3 v4 ((v5 + 1)) o11.1 o11.2.1 o11.2.2.1 o11.2.2.2.1 o11.2.2.2.2.1 o11.2.2.2.2.2.1 o11.2.2.2.2.2.2.1 o11.2.2.2.2.2.2.2.2.2.1 o11.2.2.2.2.2.2.2.2.2.2 o11.2.2.2.2.2.2.2.1 o11.2.2.2.2.2.2.2.2.1 _ hf hE _ _ _ (lv_sub hl [1, 2, 3, 4, 5, 0] rfl) hP hD hS
        · rw [if_neg c14] at hf
          refine lv_aload_n hx hb dX11_deepest_85 rfl (lv_at hl 0 rfl) ?_
          refine gf_RX11_53 C hP 0 rfl rfl dX11_deepest_86 ?_
          refine gf_RX11_148 C hP 5 rfl rfl dX11_deepest_89 ?_
          refine gf_RX11_154 C hP 6 rfl rfl dX11_deepest_92 ?_
          refine lv_iload_n hx hb dX11_deepest_95 rfl (lv_at hl 1 rfl) ?_
          obtain ⟨g15, hf⟩ := gd_some hf
          refine va_iald hx hb C.2.2.2.2.2.1 hP 8 0 rfl rfl (vin_in g15) dX11_deepest_96 ?_
          refine lv_istore_n (lv' := [(3, .int ((o11.2.2.2.2.2.2.1 (p1 : Int32).toNatClampNeg))), (0, .ref q0), (1, .int p1), (2, .int p2), (4, .int v4), (5, .int v5)]) hx hb dX11_deepest_97 rfl hl (by decide) rfl (fun ls hl => ?_)
          refine lv_iload hx hb dX11_deepest_98 (lv_at hl 5 rfl) ?_
          refine lv_istore (lv' := [(4, .int v5), (3, .int ((o11.2.2.2.2.2.2.1 (p1 : Int32).toNatClampNeg))), (0, .ref q0), (1, .int p1), (2, .int p2), (5, .int v5)]) hx hb dX11_deepest_100 hl (by decide) rfl (fun ls hl => ?_)
          refine lv_iinc (v := (v5 + 1)) (lv' := [(5, .int ((v5 + 1))), (4, .int v5), (3, .int ((o11.2.2.2.2.2.2.1 (p1 : Int32).toNatClampNeg))), (0, .ref q0), (1, .int p1), (2, .int p2)]) hx hb dX11_deepest_102 hl (k := 5) rfl rfl (by decide) rfl (fun ls hl => ?_)
          refine lv_goto (tgt := 56) hx hb dX11_deepest_105 (by decide) ?_
          exact ih ((o11.2.2.2.2.2.2.1 (p1 : Int32).toNatClampNeg)) v5 ((v5 + 1)) o11.1 o11.2.1 o11.2.2.1 o11.2.2.2.1 o11.2.2.2.2.1 o11.2.2.2.2.2.1 o11.2.2.2.2.2.2.1 o11.2.2.2.2.2.2.2.2.2.1 o11.2.2.2.2.2.2.2.2.2.2 o11.2.2.2.2.2.2.2.1 o11.2.2.2.2.2.2.2.2.1 _ hf hE _ _ _ (lv_sub hl [3, 4, 5, 2, 1, 0] rfl) hP hD hS
  intro H locs ls hl hP hD hS
  have hl : lv_has ls 6 [(0, .ref q0), (1, .int p1), (2, .int p2)] := hl
  unfold fX11_deepest at hf
  refine lv_aload_n hx hb dX11_deepest_0 rfl (lv_at hl 0 rfl) ?_
  refine gf_RX11_19 C hP 0 rfl rfl dX11_deepest_1 ?_
  refine lv_iload_n hx hb dX11_deepest_4 rfl (lv_at hl 1 rfl) ?_
  obtain ⟨o1, hg2, hf⟩ := bd_some hf
  refine k_VI2 (As := [.int p1]) C K_RX11_139 (Nat.le_of_ble_eq_true rfl) (Nat.le_of_ble_eq_true rfl) (kX7_has l E q0_town q0_town_hold q0_town_below q0_town_hay i_town_houses p1 o1 hg2) [1] rfl rfl rfl (ci := 7) rfl rfl (q0 := 0) rfl hP hD hS hA hl.1 (Nat.le_of_ble_eq_true rfl) rfl dX11_deepest_5 (ws2 := (WX11_deepest E q0 q0_text q0_town q0_weather q0_rule q0_acts q0_real q0_trial q0_round q0_nights q0_before q0_history q0_kept q0_keptHouses q0_shortest q0_tracks q0_tally q0_told q0_town_hold q0_town_below q0_town_hay q0_real_state q0_real_owedBy q0_real_state_snow q0_real_state_path q0_real_state_debt q0_trial_state q0_trial_owedBy q0_trial_state_snow q0_trial_state_path q0_trial_state_debt q0_weather_inches q0_rule_code q0_rule_draft q0_rule_stack q0_rule_things i_toldCount i_town_houses i_real_owed i_real_slides i_real_struck i_real_slid i_real_state_now a_real_state_path i_trial_owed i_trial_slides i_trial_struck i_trial_slid i_trial_state_now a_trial_state_snow a_trial_state_path a_trial_state_debt a_trial_owedBy a_real_state_snow a_real_state_debt i_weather_length i_weather_cycle i_rule_length i_rule_drafted a_weather_inches a_town_hold a_town_below a_rule_things a_rule_stack a_rule_code a_told)) 22 [0, 2, 3, 4, 5, 6, 7, 8, 9, 10, 11, 12, 13, 14, 15, 16, 17, 18, 19, 20, 21] rfl rfl rfl rfl (by decide +kernel) (fun H locs hP hD hS => ?_)
  refine lv_if_eq (tgt := 21) hx hb dX11_deepest_8 (by decide) (fun c3 => ?_) (fun c3 => ?_)
  · rw [if_pos c3] at hf
    refine lv_iconst (v := (-1)) hx hb dX11_deepest_21 (by decide) ?_
    have hj0 := Option.some.inj hf
    subst hj0
    exact hret _ _ _ _ dX11_deepest_22 rfl hP hD hS
  · rw [if_neg c3] at hf
    refine lv_iload_n hx hb dX11_deepest_11 rfl (lv_at hl 2 rfl) ?_
    refine lv_iconst (v := 0) hx hb dX11_deepest_12 (by decide) ?_
    refine lv_bipush (v := 60) hx hb dX11_deepest_13 (by decide) ?_
    obtain ⟨o4, hg5, hf⟩ := bd_some hf
    refine k_SI2 (As := [.int p2, .int 0, .int 60]) C K_RX11_128 (Nat.le_of_ble_eq_true rfl) (Nat.le_of_ble_eq_true rfl) (kX11_isWithin l E p2 0 60 o4 hg5) [] rfl rfl rfl  hP hD hS hA hl.1 (Nat.le_of_ble_eq_true rfl) rfl dX11_deepest_15 (ws2 := (WX11_deepest E q0 q0_text q0_town q0_weather q0_rule q0_acts q0_real q0_trial q0_round q0_nights q0_before q0_history q0_kept q0_keptHouses q0_shortest q0_tracks q0_tally q0_told q0_town_hold q0_town_below q0_town_hay q0_real_state q0_real_owedBy q0_real_state_snow q0_real_state_path q0_real_state_debt q0_trial_state q0_trial_owedBy q0_trial_state_snow q0_trial_state_path q0_trial_state_debt q0_weather_inches q0_rule_code q0_rule_draft q0_rule_stack q0_rule_things i_toldCount i_town_houses i_real_owed i_real_slides i_real_struck i_real_slid i_real_state_now a_real_state_path i_trial_owed i_trial_slides i_trial_struck i_trial_slid i_trial_state_now a_trial_state_snow a_trial_state_path a_trial_state_debt a_trial_owedBy a_real_state_snow a_real_state_debt i_weather_length i_weather_cycle i_rule_length i_rule_drafted a_weather_inches a_town_hold a_town_below a_rule_things a_rule_stack a_rule_code a_told)) 22 [0, 1, 2, 3, 4, 5, 6, 7, 8, 9, 10, 11, 12, 13, 14, 15, 16, 17, 18, 19, 20, 21] rfl rfl rfl rfl (by decide +kernel) (fun H locs hP hD hS => ?_)
    refine lv_if_ne (tgt := 23) hx hb dX11_deepest_18 (by decide) (fun c6 => ?_) (fun c6 => ?_)
    · rw [if_neg c6] at hf
      refine lv_aload_n hx hb dX11_deepest_23 rfl (lv_at hl 0 rfl) ?_
      refine gf_RX11_49 C hP 0 rfl rfl dX11_deepest_24 ?_
      refine gf_RX11_148 C hP 2 rfl rfl dX11_deepest_27 ?_
      refine gf_RX11_154 C hP 3 rfl rfl dX11_deepest_30 ?_
      refine lv_iload_n hx hb dX11_deepest_33 rfl (lv_at hl 1 rfl) ?_
      obtain ⟨g7, hf⟩ := gd_some hf
      refine va_iald hx hb C.2.2.2.2.2.1 hP 4 0 rfl rfl (vin_in g7) dX11_deepest_34 ?_
      refine lv_istore_n (lv' := [(3, .int ((a_real_state_path (p1 : Int32).toNatClampNeg))), (0, .ref q0), (1, .int p1), (2, .int p2)]) hx hb dX11_deepest_35 rfl hl (by decide) rfl (fun ls hl => ?_)
      refine lv_iconst (v := 0) hx hb dX11_deepest_36 (by decide) ?_
      refine lv_istore (lv' := [(4, .int 0), (3, .int ((a_real_state_path (p1 : Int32).toNatClampNeg))), (0, .ref q0), (1, .int p1), (2, .int p2)]) hx hb dX11_deepest_37 hl (by decide) rfl (fun ls hl => ?_)
      refine lv_aload_n hx hb dX11_deepest_39 rfl (lv_at hl 2 rfl) ?_
      refine gf_RX11_53 C hP 0 rfl rfl dX11_deepest_40 ?_
      refine lv_aload_n hx hb dX11_deepest_43 rfl (lv_at hl 2 rfl) ?_
      refine gf_RX11_49 C hP 0 rfl rfl dX11_deepest_44 ?_
      refine gf_RX11_148 C hP 2 rfl rfl dX11_deepest_47 ?_
      obtain ⟨o8, hg9, hf⟩ := bd_some hf
      refine k_VV2 (As := [.ref q0_real_state]) C K_RX11_337 (Nat.le_of_ble_eq_true rfl) (Nat.le_of_ble_eq_true rfl) (kX9_beginAt l E q0_trial q0_town q0_weather q0_rule q0_trial_state q0_trial_owedBy q0_trial_state_snow q0_trial_state_path q0_trial_state_debt q0_real_state q0_real_state_snow q0_real_state_path q0_real_state_debt i_trial_owed i_trial_slides i_trial_struck i_trial_slid i_trial_state_now a_trial_state_snow a_trial_state_path a_trial_state_debt a_trial_owedBy i_real_state_now a_real_state_snow a_real_state_path a_real_state_debt o8.1 o8.2.1 o8.2.2.1 o8.2.2.2.1 o8.2.2.2.2.1 o8.2.2.2.2.2.1 o8.2.2.2.2.2.2.1 o8.2.2.2.2.2.2.2.1 o8.2.2.2.2.2.2.2.2 hg9) [5, 6, 7, 8, 9, 10, 3, 11, 4, 12] rfl rfl rfl (ci := 9) rfl rfl (q0 := 0) rfl hP hD hS hA hl.1 (Nat.le_of_ble_eq_true rfl) rfl dX11_deepest_50 (ws2 := (WX11_deepest E q0 q0_text q0_town q0_weather q0_rule q0_acts q0_real q0_trial q0_round q0_nights q0_before q0_history q0_kept q0_keptHouses q0_shortest q0_tracks q0_tally q0_told q0_town_hold q0_town_below q0_town_hay q0_real_state q0_real_owedBy q0_real_state_snow q0_real_state_path q0_real_state_debt q0_trial_state q0_trial_owedBy q0_trial_state_snow q0_trial_state_path q0_trial_state_debt q0_weather_inches q0_rule_code q0_rule_draft q0_rule_stack q0_rule_things i_toldCount i_town_houses i_real_owed i_real_slides i_real_struck i_real_slid i_real_state_now a_real_state_path o8.1 o8.2.1 o8.2.2.1 o8.2.2.2.1 o8.2.2.2.2.1 o8.2.2.2.2.2.1 o8.2.2.2.2.2.2.1 o8.2.2.2.2.2.2.2.1 o8.2.2.2.2.2.2.2.2 a_real_state_snow a_real_state_debt i_weather_length i_weather_cycle i_rule_length i_rule_drafted a_weather_inches a_town_hold a_town_below a_rule_things a_rule_stack a_rule_code a_told)) 22 [0, 1, 2, 13, 14, 15, 16, 17, 18, 19, 20, 21] rfl rfl rfl rfl (by decide +kernel) (fun H locs hP hD hS => ?_)
      refine lv_iconst (v := 1) hx hb dX11_deepest_53 (by decide) ?_
      refine lv_istore (lv' := [(5, .int 1), (4, .int 0), (3, .int ((a_real_state_path (p1 : Int32).toNatClampNeg))), (0, .ref q0), (1, .int p1), (2, .int p2)]) hx hb dX11_deepest_54 hl (by decide) rfl (fun ls hl => ?_)
      obtain ⟨o16, hg17, hf⟩ := bd_some hf
      refine L56 i_toldCount a_told FU ((a_real_state_path (p1 : Int32).toNatClampNeg)) 0 1 o8.1 o8.2.1 o8.2.2.1 o8.2.2.2.1 o8.2.2.2.2.1 o8.2.2.2.2.2.1 o8.2.2.2.2.2.2.1 o8.2.2.2.2.2.2.2.1 o8.2.2.2.2.2.2.2.2 a_rule_things a_rule_stack o16 hg17 ?_ _ _ _ (lv_sub hl [3, 4, 5, 2, 1, 0] rfl) hP hD hS
      intro H locs ls hl hP hD hS
      refine lv_aload_n hx hb dX11_deepest_108 rfl (lv_at hl 0 rfl) ?_
      refine lv_iload hx hb dX11_deepest_109 (lv_at hl 2 rfl) ?_
      obtain ⟨o18, hg19, hf⟩ := bd_some hf
      refine k_VV2 (As := [.int o16.2.1]) C K_RX11_244 (Nat.le_of_ble_eq_true rfl) (Nat.le_of_ble_eq_true rfl) (kX11_tell l E q0 q0_text q0_town q0_weather q0_rule q0_acts q0_real q0_trial q0_round q0_nights q0_before q0_history q0_kept q0_keptHouses q0_shortest q0_tracks q0_tally q0_told i_toldCount a_told o16.2.1 o18 hg19) [0, 21] rfl rfl rfl (ci := 11) rfl rfl (q0 := 0) rfl hP hD hS hA hl.1 (Nat.le_of_ble_eq_true rfl) rfl dX11_deepest_111 (ws2 := (WX11_deepest E q0 q0_text q0_town q0_weather q0_rule q0_acts q0_real q0_trial q0_round q0_nights q0_before q0_history q0_kept q0_keptHouses q0_shortest q0_tracks q0_tally q0_told q0_town_hold q0_town_below q0_town_hay q0_real_state q0_real_owedBy q0_real_state_snow q0_real_state_path q0_real_state_debt q0_trial_state q0_trial_owedBy q0_trial_state_snow q0_trial_state_path q0_trial_state_debt q0_weather_inches q0_rule_code q0_rule_draft q0_rule_stack q0_rule_things o18.1 i_town_houses i_real_owed i_real_slides i_real_struck i_real_slid i_real_state_now a_real_state_path o16.2.2.1 o16.2.2.2.1 o16.2.2.2.2.1 o16.2.2.2.2.2.1 o16.2.2.2.2.2.2.1 o16.2.2.2.2.2.2.2.1 o16.2.2.2.2.2.2.2.2.1 o16.2.2.2.2.2.2.2.2.2.1 o16.2.2.2.2.2.2.2.2.2.2.1 a_real_state_snow a_real_state_debt i_weather_length i_weather_cycle i_rule_length i_rule_drafted a_weather_inches a_town_hold a_town_below o16.2.2.2.2.2.2.2.2.2.2.2.1 o16.2.2.2.2.2.2.2.2.2.2.2.2 a_rule_code o18.2)) 22 [1, 2, 3, 4, 5, 6, 7, 8, 9, 10, 11, 12, 13, 14, 15, 16, 17, 18, 19, 20] rfl rfl rfl rfl (by decide +kernel) (fun H locs hP hD hS => ?_)
      refine lv_iload_n hx hb dX11_deepest_114 rfl (lv_at hl 1 rfl) ?_
      have hj0 := Option.some.inj hf
      subst hj0
      exact hret _ _ _ _ dX11_deepest_115 rfl hP hD hS
    · rw [if_pos c6] at hf
      refine lv_iconst (v := (-1)) hx hb dX11_deepest_21 (by decide) ?_
      have hj0 := Option.some.inj hf
      subst hj0
      exact hret _ _ _ _ dX11_deepest_22 rfl hP hD hS
theorem dX11_lord_0 : decode cX11_lord 0 = .ok (.iload_n 1, 1) := by decide +kernel
theorem dX11_lord_1 : decode cX11_lord 1 = .ok (.iconst 0, 1) := by decide +kernel
theorem dX11_lord_2 : decode cX11_lord 2 = .ok (.bipush 60, 2) := by decide +kernel
theorem dX11_lord_4 : decode cX11_lord 4 = .ok (.invokestatic 128, 3) := by decide +kernel
theorem dX11_lord_7 : decode cX11_lord 7 = .ok (.ifCond .ne 5, 3) := by decide +kernel
theorem dX11_lord_10 : decode cX11_lord 10 = .ok (.iconst (-1), 1) := by decide +kernel
theorem dX11_lord_11 : decode cX11_lord 11 = .ok (.ireturn, 1) := by decide +kernel
theorem dX11_lord_12 : decode cX11_lord 12 = .ok (.aload_n 0, 1) := by decide +kernel
theorem dX11_lord_13 : decode cX11_lord 13 = .ok (.getfield 53, 3) := by decide +kernel
theorem dX11_lord_16 : decode cX11_lord 16 = .ok (.aload_n 0, 1) := by decide +kernel
theorem dX11_lord_17 : decode cX11_lord 17 = .ok (.getfield 49, 3) := by decide +kernel
theorem dX11_lord_20 : decode cX11_lord 20 = .ok (.getfield 148, 3) := by decide +kernel
theorem dX11_lord_23 : decode cX11_lord 23 = .ok (.iload_n 1, 1) := by decide +kernel
theorem dX11_lord_24 : decode cX11_lord 24 = .ok (.invokevirtual 331, 3) := by decide +kernel
theorem dX11_lord_27 : decode cX11_lord 27 = .ok (.bipush (-2), 2) := by decide +kernel
theorem dX11_lord_29 : decode cX11_lord 29 = .ok (.istore_n 2, 1) := by decide +kernel
theorem dX11_lord_30 : decode cX11_lord 30 = .ok (.iconst 0, 1) := by decide +kernel
theorem dX11_lord_31 : decode cX11_lord 31 = .ok (.istore_n 3, 1) := by decide +kernel
theorem dX11_lord_32 : decode cX11_lord 32 = .ok (.iconst 0, 1) := by decide +kernel
theorem dX11_lord_33 : decode cX11_lord 33 = .ok (.istore 4, 2) := by decide +kernel
theorem dX11_lord_35 : decode cX11_lord 35 = .ok (.iload 4, 2) := by decide +kernel
theorem dX11_lord_37 : decode cX11_lord 37 = .ok (.aload_n 0, 1) := by decide +kernel
theorem dX11_lord_38 : decode cX11_lord 38 = .ok (.getfield 19, 3) := by decide +kernel
theorem dX11_lord_41 : decode cX11_lord 41 = .ok (.getfield 179, 3) := by decide +kernel
theorem dX11_lord_44 : decode cX11_lord 44 = .ok (.if_icmp .ge 48, 3) := by decide +kernel
theorem dX11_lord_47 : decode cX11_lord 47 = .ok (.aload_n 0, 1) := by decide +kernel
theorem dX11_lord_48 : decode cX11_lord 48 = .ok (.getfield 53, 3) := by decide +kernel
theorem dX11_lord_51 : decode cX11_lord 51 = .ok (.getfield 148, 3) := by decide +kernel
theorem dX11_lord_54 : decode cX11_lord 54 = .ok (.iload 4, 2) := by decide +kernel
theorem dX11_lord_56 : decode cX11_lord 56 = .ok (.invokevirtual 166, 3) := by decide +kernel
theorem dX11_lord_59 : decode cX11_lord 59 = .ok (.aload_n 0, 1) := by decide +kernel
theorem dX11_lord_60 : decode cX11_lord 60 = .ok (.getfield 49, 3) := by decide +kernel
theorem dX11_lord_63 : decode cX11_lord 63 = .ok (.getfield 148, 3) := by decide +kernel
theorem dX11_lord_66 : decode cX11_lord 66 = .ok (.iload 4, 2) := by decide +kernel
theorem dX11_lord_68 : decode cX11_lord 68 = .ok (.invokevirtual 166, 3) := by decide +kernel
theorem dX11_lord_71 : decode cX11_lord 71 = .ok (.isub, 1) := by decide +kernel
theorem dX11_lord_72 : decode cX11_lord 72 = .ok (.istore 5, 2) := by decide +kernel
theorem dX11_lord_74 : decode cX11_lord 74 = .ok (.iload 5, 2) := by decide +kernel
theorem dX11_lord_76 : decode cX11_lord 76 = .ok (.iload_n 3, 1) := by decide +kernel
theorem dX11_lord_77 : decode cX11_lord 77 = .ok (.if_icmp .le 9, 3) := by decide +kernel
theorem dX11_lord_80 : decode cX11_lord 80 = .ok (.iload 5, 2) := by decide +kernel
theorem dX11_lord_82 : decode cX11_lord 82 = .ok (.istore_n 3, 1) := by decide +kernel
theorem dX11_lord_83 : decode cX11_lord 83 = .ok (.iload 4, 2) := by decide +kernel
theorem dX11_lord_85 : decode cX11_lord 85 = .ok (.istore_n 2, 1) := by decide +kernel
theorem dX11_lord_86 : decode cX11_lord 86 = .ok (.iinc 4 1, 3) := by decide +kernel
theorem dX11_lord_89 : decode cX11_lord 89 = .ok (.goto (-54), 3) := by decide +kernel
theorem dX11_lord_92 : decode cX11_lord 92 = .ok (.iload_n 3, 1) := by decide +kernel
theorem dX11_lord_93 : decode cX11_lord 93 = .ok (.ifCond .le 8, 3) := by decide +kernel
theorem dX11_lord_96 : decode cX11_lord 96 = .ok (.aload_n 0, 1) := by decide +kernel
theorem dX11_lord_97 : decode cX11_lord 97 = .ok (.iload_n 3, 1) := by decide +kernel
theorem dX11_lord_98 : decode cX11_lord 98 = .ok (.invokevirtual 244, 3) := by decide +kernel
theorem dX11_lord_101 : decode cX11_lord 101 = .ok (.iload_n 2, 1) := by decide +kernel
theorem dX11_lord_102 : decode cX11_lord 102 = .ok (.ireturn, 1) := by decide +kernel
def WX11_lord (E : ENV) (q0 : Nat) (q0_text : Nat) (q0_town : Nat) (q0_weather : Nat) (q0_rule : Nat) (q0_acts : Nat) (q0_real : Nat) (q0_trial : Nat) (q0_round : Nat) (q0_nights : Nat) (q0_before : Nat) (q0_history : Nat) (q0_kept : Nat) (q0_keptHouses : Nat) (q0_shortest : Nat) (q0_tracks : Nat) (q0_tally : Nat) (q0_told : Nat) (q0_real_state : Nat) (q0_real_owedBy : Nat) (q0_trial_state : Nat) (q0_trial_owedBy : Nat) (q0_trial_state_snow : Nat) (q0_trial_state_path : Nat) (q0_trial_state_debt : Nat) (q0_weather_inches : Nat) (q0_town_hold : Nat) (q0_town_below : Nat) (q0_town_hay : Nat) (q0_rule_code : Nat) (q0_rule_draft : Nat) (q0_rule_stack : Nat) (q0_rule_things : Nat) (q0_real_state_snow : Nat) (q0_real_state_path : Nat) (q0_real_state_debt : Nat) (i_toldCount : Int32) (i_real_owed : Int32) (i_real_slides : Int32) (i_real_struck : Int32) (i_real_slid : Int32) (i_trial_owed : Int32) (i_trial_slides : Int32) (i_trial_struck : Int32) (i_trial_slid : Int32) (i_trial_state_now : Int32) (i_weather_length : Int32) (i_weather_cycle : Int32) (i_town_houses : Int32) (i_rule_length : Int32) (i_rule_drafted : Int32) (i_real_state_now : Int32) (a_trial_state_snow : Nat → Int32) (a_trial_state_path : Nat → Int32) (a_trial_state_debt : Nat → Int32) (a_trial_owedBy : Nat → Int32) (a_weather_inches : Nat → Int32) (a_town_hold : Nat → Int32) (a_town_below : Nat → Int32) (a_rule_things : Nat → Int32) (a_rule_stack : Nat → Int32) (a_rule_code : Nat → Int32) (a_real_state_snow : Nat → Int32) (a_real_state_path : Nat → Int32) (a_real_state_debt : Nat → Int32) (a_told : Nat → Int32) : va_W := [(q0, .inr (11, [.ref q0_text, .ref q0_town, .ref q0_weather, .ref q0_rule, .ref q0_acts, .ref q0_real, .ref q0_trial, .ref q0_round, .ref q0_nights, .ref q0_before, .ref q0_history, .ref q0_kept, .ref q0_keptHouses, .ref q0_shortest, .ref q0_tracks, .ref q0_tally, .ref q0_told, .int i_toldCount])), (q0_real, .inr (9, [.ref q0_town, .ref q0_weather, .ref q0_rule, .ref q0_real_state, .ref q0_real_owedBy, .int i_real_owed, .int i_real_slides, .int i_real_struck, .int i_real_slid])), (q0_trial, .inr (9, [.ref q0_town, .ref q0_weather, .ref q0_rule, .ref q0_trial_state, .ref q0_trial_owedBy, .int i_trial_owed, .int i_trial_slides, .int i_trial_struck, .int i_trial_slid])), (q0_trial_state, .inr (5, [.ref q0_trial_state_snow, .ref q0_trial_state_path, .ref q0_trial_state_debt, .int i_trial_state_now])), (q0_weather, .inr (10, [.ref q0_weather_inches, .int i_weather_length, .int i_weather_cycle])), (q0_town, .inr (7, [.ref q0_town_hold, .ref q0_town_below, .ref q0_town_hay, .int i_town_houses])), (q0_rule, .inr (4, [.ref q0_rule_code, .ref q0_rule_draft, .ref q0_rule_stack, .ref q0_rule_things, .int i_rule_length, .int i_rule_drafted])), (q0_real_state, .inr (5, [.ref q0_real_state_snow, .ref q0_real_state_path, .ref q0_real_state_debt, .int i_real_state_now])), (q0_trial_state_snow, .inl (E.2.1, 14, .inl a_trial_state_snow)), (q0_trial_state_path, .inl (E.2.1, 7, .inl a_trial_state_path)), (q0_trial_state_debt, .inl (E.2.1, 49, .inl a_trial_state_debt)), (q0_trial_owedBy, .inl (E.2.1, 7, .inl a_trial_owedBy)), (q0_weather_inches, .inl (E.2.1, 40, .inl a_weather_inches)), (q0_town_hold, .inl (E.2.1, 7, .inl a_town_hold)), (q0_town_below, .inl (E.2.1, 14, .inl a_town_below)), (q0_rule_things, .inl (E.2.1, 8, .inl a_rule_things)), (q0_rule_stack, .inl (E.2.1, 40, .inl a_rule_stack)), (q0_rule_code, .inl (E.2.1, 40, .inl a_rule_code)), (q0_real_state_snow, .inl (E.2.1, 14, .inl a_real_state_snow)), (q0_real_state_path, .inl (E.2.1, 7, .inl a_real_state_path)), (q0_real_state_debt, .inl (E.2.1, 49, .inl a_real_state_debt)), (q0_told, .inl (E.2.1, 8, .inl a_told))]
set_option maxHeartbeats 4000000 in
set_option maxRecDepth 20000 in
theorem kX11_lord (l : Launch) (E : ENV) (q0 : Nat) (q0_text : Nat) (q0_town : Nat) (q0_weather : Nat) (q0_rule : Nat) (q0_acts : Nat) (q0_real : Nat) (q0_trial : Nat) (q0_round : Nat) (q0_nights : Nat) (q0_before : Nat) (q0_history : Nat) (q0_kept : Nat) (q0_keptHouses : Nat) (q0_shortest : Nat) (q0_tracks : Nat) (q0_tally : Nat) (q0_told : Nat) (q0_real_state : Nat) (q0_real_owedBy : Nat) (q0_trial_state : Nat) (q0_trial_owedBy : Nat) (q0_trial_state_snow : Nat) (q0_trial_state_path : Nat) (q0_trial_state_debt : Nat) (q0_weather_inches : Nat) (q0_town_hold : Nat) (q0_town_below : Nat) (q0_town_hay : Nat) (q0_rule_code : Nat) (q0_rule_draft : Nat) (q0_rule_stack : Nat) (q0_rule_things : Nat) (q0_real_state_snow : Nat) (q0_real_state_path : Nat) (q0_real_state_debt : Nat) (i_toldCount : Int32) (i_real_owed : Int32) (i_real_slides : Int32) (i_real_struck : Int32) (i_real_slid : Int32) (i_trial_owed : Int32) (i_trial_slides : Int32) (i_trial_struck : Int32) (i_trial_slid : Int32) (i_trial_state_now : Int32) (i_weather_length : Int32) (i_weather_cycle : Int32) (i_town_houses : Int32) (i_rule_length : Int32) (i_rule_drafted : Int32) (i_real_state_now : Int32) (a_trial_state_snow : Nat → Int32) (a_trial_state_path : Nat → Int32) (a_trial_state_debt : Nat → Int32) (a_trial_owedBy : Nat → Int32) (a_weather_inches : Nat → Int32) (a_town_hold : Nat → Int32) (a_town_below : Nat → Int32) (a_rule_things : Nat → Int32) (a_rule_stack : Nat → Int32) (a_rule_code : Nat → Int32) (a_real_state_snow : Nat → Int32) (a_real_state_path : Nat → Int32) (a_real_state_debt : Nat → Int32) (a_told : Nat → Int32) (p1 : Int32) (o9 : Int32 × Int32 × Int32 × Int32 × Int32 × Int32 × Int32 × (Nat → Int32) × (Nat → Int32) × (Nat → Int32) × (Nat → Int32) × (Nat → Int32) × (Nat → Int32) × (Nat → Int32)) (hf : fX11_lord i_toldCount i_trial_owed i_trial_slides i_trial_struck i_trial_slid i_trial_state_now i_weather_cycle i_town_houses i_rule_length i_real_state_now a_trial_state_snow a_trial_state_path a_trial_state_debt a_trial_owedBy a_weather_inches a_town_hold a_town_below a_rule_things a_rule_stack a_rule_code a_real_state_snow a_real_state_path a_real_state_debt a_told p1 = some o9) : CI l E yX11_lord cX11_lord 6 (some .int) 5 [.ref q0, .int p1] (WX11_lord E q0 q0_text q0_town q0_weather q0_rule q0_acts q0_real q0_trial q0_round q0_nights q0_before q0_history q0_kept q0_keptHouses q0_shortest q0_tracks q0_tally q0_told q0_real_state q0_real_owedBy q0_trial_state q0_trial_owedBy q0_trial_state_snow q0_trial_state_path q0_trial_state_debt q0_weather_inches q0_town_hold q0_town_below q0_town_hay q0_rule_code q0_rule_draft q0_rule_stack q0_rule_things q0_real_state_snow q0_real_state_path q0_real_state_debt i_toldCount i_real_owed i_real_slides i_real_struck i_real_slid i_trial_owed i_trial_slides i_trial_struck i_trial_slid i_trial_state_now i_weather_length i_weather_cycle i_town_houses i_rule_length i_rule_drafted i_real_state_now a_trial_state_snow a_trial_state_path a_trial_state_debt a_trial_owedBy a_weather_inches a_town_hold a_town_below a_rule_things a_rule_stack a_rule_code a_real_state_snow a_real_state_path a_real_state_debt a_told) (WX11_lord E q0 q0_text q0_town q0_weather q0_rule q0_acts q0_real q0_trial q0_round q0_nights q0_before q0_history q0_kept q0_keptHouses q0_shortest q0_tracks q0_tally q0_told q0_real_state q0_real_owedBy q0_trial_state q0_trial_owedBy q0_trial_state_snow q0_trial_state_path q0_trial_state_debt q0_weather_inches q0_town_hold q0_town_below q0_town_hay q0_rule_code q0_rule_draft q0_rule_stack q0_rule_things q0_real_state_snow q0_real_state_path q0_real_state_debt o9.2.1 i_real_owed i_real_slides i_real_struck i_real_slid o9.2.2.1 o9.2.2.2.1 o9.2.2.2.2.1 o9.2.2.2.2.2.1 o9.2.2.2.2.2.2.1 i_weather_length i_weather_cycle i_town_houses i_rule_length i_rule_drafted i_real_state_now o9.2.2.2.2.2.2.2.1 o9.2.2.2.2.2.2.2.2.1 o9.2.2.2.2.2.2.2.2.2.1 o9.2.2.2.2.2.2.2.2.2.2.1 a_weather_inches a_town_hold a_town_below o9.2.2.2.2.2.2.2.2.2.2.2.1 o9.2.2.2.2.2.2.2.2.2.2.2.2.1 a_rule_code a_real_state_snow a_real_state_path a_real_state_debt o9.2.2.2.2.2.2.2.2.2.2.2.2.2) o9.1 := by
  refine begI (by decide +kernel) (Nat.le_of_ble_eq_true rfl) ?_
  intro p e s m args below meth c A Q C hA hret
  have hx := C.1
  have hb := C.2.1
  have L35 : ∀ (i_toldCount : Int32) (i_trial_owed : Int32) (i_trial_slides : Int32) (i_trial_struck : Int32) (i_trial_slid : Int32) (i_trial_state_now : Int32) (a_trial_state_snow : Nat → Int32) (a_trial_state_path : Nat → Int32) (a_trial_state_debt : Nat → Int32) (a_trial_owedBy : Nat → Int32) (a_rule_things : Nat → Int32) (a_rule_stack : Nat → Int32) (a_told : Nat → Int32), ∀ (n : Nat) (v2 : Int32) (v3 : Int32) (v4 : Int32) (o : Int32 × Int32), fX11_lord_L35 i_town_houses a_real_state_debt a_trial_state_debt n v2 v3 v4 = some o → (GO p l e 5 s m args below meth c Q E A 6 92 [] [(0, .ref q0), (2, .int o.1), (3, .int o.2)] (WX11_lord E q0 q0_text q0_town q0_weather q0_rule q0_acts q0_real q0_trial q0_round q0_nights q0_before q0_history q0_kept q0_keptHouses q0_shortest q0_tracks q0_tally q0_told q0_real_state q0_real_owedBy q0_trial_state q0_trial_owedBy q0_trial_state_snow q0_trial_state_path q0_trial_state_debt q0_weather_inches q0_town_hold q0_town_below q0_town_hay q0_rule_code q0_rule_draft q0_rule_stack q0_rule_things q0_real_state_snow q0_real_state_path q0_real_state_debt i_toldCount i_real_owed i_real_slides i_real_struck i_real_slid i_trial_owed i_trial_slides i_trial_struck i_trial_slid i_trial_state_now i_weather_length i_weather_cycle i_town_houses i_rule_length i_rule_drafted i_real_state_now a_trial_state_snow a_trial_state_path a_trial_state_debt a_trial_owedBy a_weather_inches a_town_hold a_town_below a_rule_things a_rule_stack a_rule_code a_real_state_snow a_real_state_path a_real_state_debt a_told)) → GO p l e 5 s m args below meth c Q E A 6 35 [] [(0, .ref q0), (2, .int v2), (3, .int v3), (4, .int v4)] (WX11_lord E q0 q0_text q0_town q0_weather q0_rule q0_acts q0_real q0_trial q0_round q0_nights q0_before q0_history q0_kept q0_keptHouses q0_shortest q0_tracks q0_tally q0_told q0_real_state q0_real_owedBy q0_trial_state q0_trial_owedBy q0_trial_state_snow q0_trial_state_path q0_trial_state_debt q0_weather_inches q0_town_hold q0_town_below q0_town_hay q0_rule_code q0_rule_draft q0_rule_stack q0_rule_things q0_real_state_snow q0_real_state_path q0_real_state_debt i_toldCount i_real_owed i_real_slides i_real_struck i_real_slid i_trial_owed i_trial_slides i_trial_struck i_trial_slid i_trial_state_now i_weather_length i_weather_cycle i_town_houses i_rule_length i_rule_drafted i_real_state_now a_trial_state_snow a_trial_state_path a_trial_state_debt a_trial_owedBy a_weather_inches a_town_hold a_town_below a_rule_things a_rule_stack a_rule_code a_real_state_snow a_real_state_path a_real_state_debt a_told) := by
    intro i_toldCount i_trial_owed i_trial_slides i_trial_struck i_trial_slid i_trial_state_now a_trial_state_snow a_trial_state_path a_trial_state_debt a_trial_owedBy a_rule_things a_rule_stack a_told
    intro n
    induction n with
    | zero =>
      intro v2 v3 v4 o hf
      have hf : none = some o := hf
      cases hf
    | succ n ih =>
      intro v2 v3 v4 o hf hE
      intro H locs ls hl hP hD hS
      rw [fX11_lord_L35] at hf
      refine lv_iload hx hb dX11_lord_35 (lv_at hl 3 rfl) ?_
      refine lv_aload_n hx hb dX11_lord_37 rfl (lv_at hl 0 rfl) ?_
      refine gf_RX11_19 C hP 0 rfl rfl dX11_lord_38 ?_
      refine gf_RX11_179 C hP 5 rfl rfl dX11_lord_41 ?_
      refine lv_icmp_ge (tgt := 92) hx hb dX11_lord_44 (by decide) (fun c6 => ?_) (fun c6 => ?_)
      · rw [if_pos c6] at hf
        have hf := Option.some.inj hf
        subst hf
        exact hE _ _ _ (lv_sub hl [0, 1, 2] rfl) hP hD hS
      · rw [if_neg c6] at hf
        refine lv_aload_n hx hb dX11_lord_47 rfl (lv_at hl 0 rfl) ?_
        refine gf_RX11_53 C hP 0 rfl rfl dX11_lord_48 ?_
        refine gf_RX11_148 C hP 2 rfl rfl dX11_lord_51 ?_
        refine lv_iload hx hb dX11_lord_54 (lv_at hl 3 rfl) ?_
        obtain ⟨o7, hg8, hf⟩ := bd_some hf
        refine k_VI2 (As := [.int v4]) C K_RX11_166 (Nat.le_of_ble_eq_true rfl) (Nat.le_of_ble_eq_true rfl) (kX5_owedTo l E q0_trial_state q0_trial_state_snow q0_trial_state_path q0_trial_state_debt i_trial_state_now a_trial_state_debt v4 o7 hg8) [3, 10] rfl rfl rfl (ci := 5) rfl rfl (q0 := 0) rfl hP hD hS hA hl.1 (Nat.le_of_ble_eq_true rfl) rfl dX11_lord_56 (ws2 := (WX11_lord E q0 q0_text q0_town q0_weather q0_rule q0_acts q0_real q0_trial q0_round q0_nights q0_before q0_history q0_kept q0_keptHouses q0_shortest q0_tracks q0_tally q0_told q0_real_state q0_real_owedBy q0_trial_state q0_trial_owedBy q0_trial_state_snow q0_trial_state_path q0_trial_state_debt q0_weather_inches q0_town_hold q0_town_below q0_town_hay q0_rule_code q0_rule_draft q0_rule_stack q0_rule_things q0_real_state_snow q0_real_state_path q0_real_state_debt i_toldCount i_real_owed i_real_slides i_real_struck i_real_slid i_trial_owed i_trial_slides i_trial_struck i_trial_slid i_trial_state_now i_weather_length i_weather_cycle i_town_houses i_rule_length i_rule_drafted i_real_state_now a_trial_state_snow a_trial_state_path a_trial_state_debt a_trial_owedBy a_weather_inches a_town_hold a_town_below a_rule_things a_rule_stack a_rule_code a_real_state_snow a_real_state_path a_real_state_debt a_told)) 22 [0, 1, 2, 4, 5, 6, 7, 8, 9, 11, 12, 13, 14, 15, 16, 17, 18, 19, 20, 21] rfl rfl rfl rfl (by decide +kernel) (fun H locs hP hD hS => ?_)
        refine lv_aload_n hx hb dX11_lord_59 rfl (lv_at hl 0 rfl) ?_
        refine gf_RX11_49 C hP 0 rfl rfl dX11_lord_60 ?_
        refine gf_RX11_148 C hP 1 rfl rfl dX11_lord_63 ?_
        refine lv_iload hx hb dX11_lord_66 (lv_at hl 3 rfl) ?_
        obtain ⟨o9, hg10, hf⟩ := bd_some hf
        refine k_VI2 (As := [.int v4]) C K_RX11_166 (Nat.le_of_ble_eq_true rfl) (Nat.le_of_ble_eq_true rfl) (kX5_owedTo l E q0_real_state q0_real_state_snow q0_real_state_path q0_real_state_debt i_real_state_now a_real_state_debt v4 o9 hg10) [7, 20] rfl rfl rfl (ci := 5) rfl rfl (q0 := 0) rfl hP hD hS hA hl.1 (Nat.le_of_ble_eq_true rfl) rfl dX11_lord_68 (ws2 := (WX11_lord E q0 q0_text q0_town q0_weather q0_rule q0_acts q0_real q0_trial q0_round q0_nights q0_before q0_history q0_kept q0_keptHouses q0_shortest q0_tracks q0_tally q0_told q0_real_state q0_real_owedBy q0_trial_state q0_trial_owedBy q0_trial_state_snow q0_trial_state_path q0_trial_state_debt q0_weather_inches q0_town_hold q0_town_below q0_town_hay q0_rule_code q0_rule_draft q0_rule_stack q0_rule_things q0_real_state_snow q0_real_state_path q0_real_state_debt i_toldCount i_real_owed i_real_slides i_real_struck i_real_slid i_trial_owed i_trial_slides i_trial_struck i_trial_slid i_trial_state_now i_weather_length i_weather_cycle i_town_houses i_rule_length i_rule_drafted i_real_state_now a_trial_state_snow a_trial_state_path a_trial_state_debt a_trial_owedBy a_weather_inches a_town_hold a_town_below a_rule_things a_rule_stack a_rule_code a_real_state_snow a_real_state_path a_real_state_debt a_told)) 22 [0, 1, 2, 3, 4, 5, 6, 8, 9, 10, 11, 12, 13, 14, 15, 16, 17, 18, 19, 21] rfl rfl rfl rfl (by decide +kernel) (fun H locs hP hD hS => ?_)
        refine lv_isub hx hb dX11_lord_71 ?_
        refine lv_istore (lv' := [(5, .int ((o7 - o9))), (0, .ref q0), (2, .int v2), (3, .int v3), (4, .int v4)]) hx hb dX11_lord_72 hl (by decide) rfl (fun ls hl => ?_)
        refine lv_iload hx hb dX11_lord_74 (lv_at hl 0 rfl) ?_
        refine lv_iload_n hx hb dX11_lord_76 rfl (lv_at hl 3 rfl) ?_
        refine lv_icmp_le (tgt := 86) hx hb dX11_lord_77 (by decide) (fun c11 => ?_) (fun c11 => ?_)
        · rw [if_pos c11] at hf
          refine lv_iinc (v := (v4 + 1)) (lv' := [(4, .int ((v4 + 1))), (5, .int ((o7 - o9))), (0, .ref q0), (2, .int v2), (3, .int v3)]) hx hb dX11_lord_86 hl (k := 4) rfl rfl (by decide) rfl (fun ls hl => ?_)
          refine lv_goto (tgt := 35) hx hb dX11_lord_89 (by decide) ?_
          exact ih v2 v3 ((v4 + 1)) _ hf hE _ _ _ (lv_sub hl [2, 3, 4, 0] rfl) hP hD hS
        · rw [if_neg c11] at hf
          refine lv_iload hx hb dX11_lord_80 (lv_at hl 0 rfl) ?_
          refine lv_istore_n (lv' := [(3, .int ((o7 - o9))), (5, .int ((o7 - o9))), (0, .ref q0), (2, .int v2), (4, .int v4)]) hx hb dX11_lord_82 rfl hl (by decide) rfl (fun ls hl => ?_)
          refine lv_iload hx hb dX11_lord_83 (lv_at hl 4 rfl) ?_
          refine lv_istore_n (lv' := [(2, .int v4), (3, .int ((o7 - o9))), (5, .int ((o7 - o9))), (0, .ref q0), (4, .int v4)]) hx hb dX11_lord_85 rfl hl (by decide) rfl (fun ls hl => ?_)
          refine lv_iinc (v := (v4 + 1)) (lv' := [(4, .int ((v4 + 1))), (2, .int v4), (3, .int ((o7 - o9))), (5, .int ((o7 - o9))), (0, .ref q0)]) hx hb dX11_lord_86 hl (k := 4) rfl rfl (by decide) rfl (fun ls hl => ?_)
          refine lv_goto (tgt := 35) hx hb dX11_lord_89 (by decide) ?_
          exact ih v4 ((o7 - o9)) ((v4 + 1)) _ hf hE _ _ _ (lv_sub hl [4, 1, 2, 0] rfl) hP hD hS
  intro H locs ls hl hP hD hS
  have hl : lv_has ls 6 [(0, .ref q0), (1, .int p1)] := hl
  unfold fX11_lord at hf
  refine lv_iload_n hx hb dX11_lord_0 rfl (lv_at hl 1 rfl) ?_
  refine lv_iconst (v := 0) hx hb dX11_lord_1 (by decide) ?_
  refine lv_bipush (v := 60) hx hb dX11_lord_2 (by decide) ?_
  obtain ⟨o1, hg2, hf⟩ := bd_some hf
  refine k_SI2 (As := [.int p1, .int 0, .int 60]) C K_RX11_128 (Nat.le_of_ble_eq_true rfl) (Nat.le_of_ble_eq_true rfl) (kX11_isWithin l E p1 0 60 o1 hg2) [] rfl rfl rfl  hP hD hS hA hl.1 (Nat.le_of_ble_eq_true rfl) rfl dX11_lord_4 (ws2 := (WX11_lord E q0 q0_text q0_town q0_weather q0_rule q0_acts q0_real q0_trial q0_round q0_nights q0_before q0_history q0_kept q0_keptHouses q0_shortest q0_tracks q0_tally q0_told q0_real_state q0_real_owedBy q0_trial_state q0_trial_owedBy q0_trial_state_snow q0_trial_state_path q0_trial_state_debt q0_weather_inches q0_town_hold q0_town_below q0_town_hay q0_rule_code q0_rule_draft q0_rule_stack q0_rule_things q0_real_state_snow q0_real_state_path q0_real_state_debt i_toldCount i_real_owed i_real_slides i_real_struck i_real_slid i_trial_owed i_trial_slides i_trial_struck i_trial_slid i_trial_state_now i_weather_length i_weather_cycle i_town_houses i_rule_length i_rule_drafted i_real_state_now a_trial_state_snow a_trial_state_path a_trial_state_debt a_trial_owedBy a_weather_inches a_town_hold a_town_below a_rule_things a_rule_stack a_rule_code a_real_state_snow a_real_state_path a_real_state_debt a_told)) 22 [0, 1, 2, 3, 4, 5, 6, 7, 8, 9, 10, 11, 12, 13, 14, 15, 16, 17, 18, 19, 20, 21] rfl rfl rfl rfl (by decide +kernel) (fun H locs hP hD hS => ?_)
  refine lv_if_ne (tgt := 12) hx hb dX11_lord_7 (by decide) (fun c3 => ?_) (fun c3 => ?_)
  · rw [if_neg c3] at hf
    refine lv_aload_n hx hb dX11_lord_12 rfl (lv_at hl 0 rfl) ?_
    refine gf_RX11_53 C hP 0 rfl rfl dX11_lord_13 ?_
    refine lv_aload_n hx hb dX11_lord_16 rfl (lv_at hl 0 rfl) ?_
    refine gf_RX11_49 C hP 0 rfl rfl dX11_lord_17 ?_
    refine gf_RX11_148 C hP 1 rfl rfl dX11_lord_20 ?_
    refine lv_iload_n hx hb dX11_lord_23 rfl (lv_at hl 1 rfl) ?_
    obtain ⟨o4, hg5, hf⟩ := bd_some hf
    refine k_VV2 (As := [.ref q0_real_state, .int p1]) C K_RX11_331 (Nat.le_of_ble_eq_true rfl) (Nat.le_of_ble_eq_true rfl) (kX9_walkFrom l E q0_trial q0_town q0_weather q0_rule q0_trial_state q0_trial_owedBy q0_trial_state_snow q0_trial_state_path q0_trial_state_debt q0_weather_inches q0_town_hold q0_town_below q0_town_hay q0_rule_code q0_rule_draft q0_rule_stack q0_rule_things q0_real_state q0_real_state_snow q0_real_state_path q0_real_state_debt i_trial_owed i_trial_slides i_trial_struck i_trial_slid i_trial_state_now a_trial_state_snow a_trial_state_path a_trial_state_debt a_trial_owedBy i_weather_length i_weather_cycle i_town_houses i_rule_length i_rule_drafted a_weather_inches a_town_hold a_town_below a_rule_things a_rule_stack a_rule_code i_real_state_now a_real_state_snow a_real_state_path a_real_state_debt p1 o4.1 o4.2.1 o4.2.2.1 o4.2.2.2.1 o4.2.2.2.2.1 o4.2.2.2.2.2.1 o4.2.2.2.2.2.2.1 o4.2.2.2.2.2.2.2.1 o4.2.2.2.2.2.2.2.2.1 o4.2.2.2.2.2.2.2.2.2.1 o4.2.2.2.2.2.2.2.2.2.2 hg5) [2, 3, 8, 9, 10, 11, 4, 5, 6, 12, 13, 14, 15, 16, 17, 7, 18, 19, 20] rfl rfl rfl (ci := 9) rfl rfl (q0 := 0) rfl hP hD hS hA hl.1 (Nat.le_of_ble_eq_true rfl) rfl dX11_lord_24 (ws2 := (WX11_lord E q0 q0_text q0_town q0_weather q0_rule q0_acts q0_real q0_trial q0_round q0_nights q0_before q0_history q0_kept q0_keptHouses q0_shortest q0_tracks q0_tally q0_told q0_real_state q0_real_owedBy q0_trial_state q0_trial_owedBy q0_trial_state_snow q0_trial_state_path q0_trial_state_debt q0_weather_inches q0_town_hold q0_town_below q0_town_hay q0_rule_code q0_rule_draft q0_rule_stack q0_rule_things q0_real_state_snow q0_real_state_path q0_real_state_debt i_toldCount i_real_owed i_real_slides i_real_struck i_real_slid o4.1 o4.2.1 o4.2.2.1 o4.2.2.2.1 o4.2.2.2.2.1 i_weather_length i_weather_cycle i_town_houses i_rule_length i_rule_drafted i_real_state_now o4.2.2.2.2.2.1 o4.2.2.2.2.2.2.1 o4.2.2.2.2.2.2.2.1 o4.2.2.2.2.2.2.2.2.1 a_weather_inches a_town_hold a_town_below o4.2.2.2.2.2.2.2.2.2.1 o4.2.2.2.2.2.2.2.2.2.2 a_rule_code a_real_state_snow a_real_state_path a_real_state_debt a_told)) 22 [0, 1, 21] rfl rfl rfl rfl (by decide +kernel) (fun H locs hP hD hS => ?_)
    refine lv_bipush (v := (-2)) hx hb dX11_lord_27 (by decide) ?_
    refine lv_istore_n (lv' := [(2, .int ((-2))), (0, .ref q0), (1, .int p1)]) hx hb dX11_lord_29 rfl hl (by decide) rfl (fun ls hl => ?_)
    refine lv_iconst (v := 0) hx hb dX11_lord_30 (by decide) ?_
    refine lv_istore_n (lv' := [(3, .int 0), (2, .int ((-2))), (0, .ref q0), (1, .int p1)]) hx hb dX11_lord_31 rfl hl (by decide) rfl (fun ls hl => ?_)
    refine lv_iconst (v := 0) hx hb dX11_lord_32 (by decide) ?_
    refine lv_istore (lv' := [(4, .int 0), (3, .int 0), (2, .int ((-2))), (0, .ref q0), (1, .int p1)]) hx hb dX11_lord_33 hl (by decide) rfl (fun ls hl => ?_)
    obtain ⟨o12, hg13, hf⟩ := bd_some hf
    refine L35 i_toldCount o4.1 o4.2.1 o4.2.2.1 o4.2.2.2.1 o4.2.2.2.2.1 o4.2.2.2.2.2.1 o4.2.2.2.2.2.2.1 o4.2.2.2.2.2.2.2.1 o4.2.2.2.2.2.2.2.2.1 o4.2.2.2.2.2.2.2.2.2.1 o4.2.2.2.2.2.2.2.2.2.2 a_told FU ((-2)) 0 0 o12 hg13 ?_ _ _ _ (lv_sub hl [3, 2, 1, 0] rfl) hP hD hS
    intro H locs ls hl hP hD hS
    refine lv_iload_n hx hb dX11_lord_92 rfl (lv_at hl 2 rfl) ?_
    refine lv_if_le (tgt := 101) hx hb dX11_lord_93 (by decide) (fun c14 => ?_) (fun c14 => ?_)
    · rw [if_pos c14] at hf
      refine lv_iload_n hx hb dX11_lord_101 rfl (lv_at hl 1 rfl) ?_
      have hj0 := Option.some.inj hf
      subst hj0
      exact hret _ _ _ _ dX11_lord_102 rfl hP hD hS
    · rw [if_neg c14] at hf
      refine lv_aload_n hx hb dX11_lord_96 rfl (lv_at hl 0 rfl) ?_
      refine lv_iload_n hx hb dX11_lord_97 rfl (lv_at hl 2 rfl) ?_
      obtain ⟨o15, hg16, hf⟩ := bd_some hf
      refine k_VV2 (As := [.int o12.2]) C K_RX11_244 (Nat.le_of_ble_eq_true rfl) (Nat.le_of_ble_eq_true rfl) (kX11_tell l E q0 q0_text q0_town q0_weather q0_rule q0_acts q0_real q0_trial q0_round q0_nights q0_before q0_history q0_kept q0_keptHouses q0_shortest q0_tracks q0_tally q0_told i_toldCount a_told o12.2 o15 hg16) [0, 21] rfl rfl rfl (ci := 11) rfl rfl (q0 := 0) rfl hP hD hS hA hl.1 (Nat.le_of_ble_eq_true rfl) rfl dX11_lord_98 (ws2 := (WX11_lord E q0 q0_text q0_town q0_weather q0_rule q0_acts q0_real q0_trial q0_round q0_nights q0_before q0_history q0_kept q0_keptHouses q0_shortest q0_tracks q0_tally q0_told q0_real_state q0_real_owedBy q0_trial_state q0_trial_owedBy q0_trial_state_snow q0_trial_state_path q0_trial_state_debt q0_weather_inches q0_town_hold q0_town_below q0_town_hay q0_rule_code q0_rule_draft q0_rule_stack q0_rule_things q0_real_state_snow q0_real_state_path q0_real_state_debt o15.1 i_real_owed i_real_slides i_real_struck i_real_slid o4.1 o4.2.1 o4.2.2.1 o4.2.2.2.1 o4.2.2.2.2.1 i_weather_length i_weather_cycle i_town_houses i_rule_length i_rule_drafted i_real_state_now o4.2.2.2.2.2.1 o4.2.2.2.2.2.2.1 o4.2.2.2.2.2.2.2.1 o4.2.2.2.2.2.2.2.2.1 a_weather_inches a_town_hold a_town_below o4.2.2.2.2.2.2.2.2.2.1 o4.2.2.2.2.2.2.2.2.2.2 a_rule_code a_real_state_snow a_real_state_path a_real_state_debt o15.2)) 22 [1, 2, 3, 4, 5, 6, 7, 8, 9, 10, 11, 12, 13, 14, 15, 16, 17, 18, 19, 20] rfl rfl rfl rfl (by decide +kernel) (fun H locs hP hD hS => ?_)
      refine lv_iload_n hx hb dX11_lord_101 rfl (lv_at hl 1 rfl) ?_
      have hj0 := Option.some.inj hf
      subst hj0
      exact hret _ _ _ _ dX11_lord_102 rfl hP hD hS
  · rw [if_pos c3] at hf
    refine lv_iconst (v := (-1)) hx hb dX11_lord_10 (by decide) ?_
    have hj0 := Option.some.inj hf
    subst hj0
    exact hret _ _ _ _ dX11_lord_11 rfl hP hD hS
theorem K_RX11_346 : KS RX11 346 yJ6_bitCount_0f7a4 cJ6_bitCount_0f7a4 1 (some .int) 1 := ⟨Tg_mem 1070 (by decide +kernel) (by decide +kernel), Tg_mem 115 (by decide +kernel) (by decide +kernel), Tg_mem 1068 (by decide +kernel) (by decide +kernel), Tg_mem 1069 (by decide +kernel) (by decide +kernel), by decide +kernel⟩
theorem dX11_worst_0 : decode cX11_worst 0 = .ok (.iload_n 1, 1) := by decide +kernel
theorem dX11_worst_1 : decode cX11_worst 1 = .ok (.iconst 1, 1) := by decide +kernel
theorem dX11_worst_2 : decode cX11_worst 2 = .ok (.bipush 60, 2) := by decide +kernel
theorem dX11_worst_4 : decode cX11_worst 4 = .ok (.invokestatic 128, 3) := by decide +kernel
theorem dX11_worst_7 : decode cX11_worst 7 = .ok (.ifCond .ne 5, 3) := by decide +kernel
theorem dX11_worst_10 : decode cX11_worst 10 = .ok (.iconst (-1), 1) := by decide +kernel
theorem dX11_worst_11 : decode cX11_worst 11 = .ok (.ireturn, 1) := by decide +kernel
theorem dX11_worst_12 : decode cX11_worst 12 = .ok (.bipush (-2), 2) := by decide +kernel
theorem dX11_worst_14 : decode cX11_worst 14 = .ok (.istore_n 2, 1) := by decide +kernel
theorem dX11_worst_15 : decode cX11_worst 15 = .ok (.iconst 0, 1) := by decide +kernel
theorem dX11_worst_16 : decode cX11_worst 16 = .ok (.istore_n 3, 1) := by decide +kernel
theorem dX11_worst_17 : decode cX11_worst 17 = .ok (.aload_n 0, 1) := by decide +kernel
theorem dX11_worst_18 : decode cX11_worst 18 = .ok (.getfield 53, 3) := by decide +kernel
theorem dX11_worst_21 : decode cX11_worst 21 = .ok (.aload_n 0, 1) := by decide +kernel
theorem dX11_worst_22 : decode cX11_worst 22 = .ok (.getfield 49, 3) := by decide +kernel
theorem dX11_worst_25 : decode cX11_worst 25 = .ok (.getfield 148, 3) := by decide +kernel
theorem dX11_worst_28 : decode cX11_worst 28 = .ok (.invokevirtual 337, 3) := by decide +kernel
theorem dX11_worst_31 : decode cX11_worst 31 = .ok (.iconst 1, 1) := by decide +kernel
theorem dX11_worst_32 : decode cX11_worst 32 = .ok (.istore 4, 2) := by decide +kernel
theorem dX11_worst_34 : decode cX11_worst 34 = .ok (.iload 4, 2) := by decide +kernel
theorem dX11_worst_36 : decode cX11_worst 36 = .ok (.iload_n 1, 1) := by decide +kernel
theorem dX11_worst_37 : decode cX11_worst 37 = .ok (.if_icmp .gt 40, 3) := by decide +kernel
theorem dX11_worst_40 : decode cX11_worst 40 = .ok (.aload_n 0, 1) := by decide +kernel
theorem dX11_worst_41 : decode cX11_worst 41 = .ok (.getfield 53, 3) := by decide +kernel
theorem dX11_worst_44 : decode cX11_worst 44 = .ok (.invokevirtual 340, 3) := by decide +kernel
theorem dX11_worst_47 : decode cX11_worst 47 = .ok (.aload_n 0, 1) := by decide +kernel
theorem dX11_worst_48 : decode cX11_worst 48 = .ok (.getfield 53, 3) := by decide +kernel
theorem dX11_worst_51 : decode cX11_worst 51 = .ok (.getfield 343, 3) := by decide +kernel
theorem dX11_worst_54 : decode cX11_worst 54 = .ok (.invokestatic 346, 3) := by decide +kernel
theorem dX11_worst_57 : decode cX11_worst 57 = .ok (.istore 5, 2) := by decide +kernel
theorem dX11_worst_59 : decode cX11_worst 59 = .ok (.iload 5, 2) := by decide +kernel
theorem dX11_worst_61 : decode cX11_worst 61 = .ok (.iload_n 3, 1) := by decide +kernel
theorem dX11_worst_62 : decode cX11_worst 62 = .ok (.if_icmp .le 9, 3) := by decide +kernel
theorem dX11_worst_65 : decode cX11_worst 65 = .ok (.iload 5, 2) := by decide +kernel
theorem dX11_worst_67 : decode cX11_worst 67 = .ok (.istore_n 3, 1) := by decide +kernel
theorem dX11_worst_68 : decode cX11_worst 68 = .ok (.iload 4, 2) := by decide +kernel
theorem dX11_worst_70 : decode cX11_worst 70 = .ok (.istore_n 2, 1) := by decide +kernel
theorem dX11_worst_71 : decode cX11_worst 71 = .ok (.iinc 4 1, 3) := by decide +kernel
theorem dX11_worst_74 : decode cX11_worst 74 = .ok (.goto (-40), 3) := by decide +kernel
theorem dX11_worst_77 : decode cX11_worst 77 = .ok (.iload_n 3, 1) := by decide +kernel
theorem dX11_worst_78 : decode cX11_worst 78 = .ok (.ifCond .le 8, 3) := by decide +kernel
theorem dX11_worst_81 : decode cX11_worst 81 = .ok (.aload_n 0, 1) := by decide +kernel
theorem dX11_worst_82 : decode cX11_worst 82 = .ok (.iload_n 3, 1) := by decide +kernel
theorem dX11_worst_83 : decode cX11_worst 83 = .ok (.invokevirtual 244, 3) := by decide +kernel
theorem dX11_worst_86 : decode cX11_worst 86 = .ok (.iload_n 2, 1) := by decide +kernel
theorem dX11_worst_87 : decode cX11_worst 87 = .ok (.ireturn, 1) := by decide +kernel
def WX11_worst (E : ENV) (q0 : Nat) (q0_text : Nat) (q0_town : Nat) (q0_weather : Nat) (q0_rule : Nat) (q0_acts : Nat) (q0_real : Nat) (q0_trial : Nat) (q0_round : Nat) (q0_nights : Nat) (q0_before : Nat) (q0_history : Nat) (q0_kept : Nat) (q0_keptHouses : Nat) (q0_shortest : Nat) (q0_tracks : Nat) (q0_tally : Nat) (q0_told : Nat) (q0_real_state : Nat) (q0_real_owedBy : Nat) (q0_trial_state : Nat) (q0_trial_owedBy : Nat) (q0_trial_state_snow : Nat) (q0_trial_state_path : Nat) (q0_trial_state_debt : Nat) (q0_real_state_snow : Nat) (q0_real_state_path : Nat) (q0_real_state_debt : Nat) (q0_weather_inches : Nat) (q0_town_hold : Nat) (q0_town_below : Nat) (q0_town_hay : Nat) (q0_rule_code : Nat) (q0_rule_draft : Nat) (q0_rule_stack : Nat) (q0_rule_things : Nat) (i_toldCount : Int32) (i_real_owed : Int32) (i_real_slides : Int32) (i_real_struck : Int32) (i_real_slid : Int32) (i_trial_owed : Int32) (i_trial_slides : Int32) (i_trial_struck : Int32) (i_trial_slid : Int32) (i_trial_state_now : Int32) (i_real_state_now : Int32) (a_trial_state_snow : Nat → Int32) (a_trial_state_path : Nat → Int32) (a_trial_state_debt : Nat → Int32) (a_trial_owedBy : Nat → Int32) (a_real_state_snow : Nat → Int32) (a_real_state_path : Nat → Int32) (a_real_state_debt : Nat → Int32) (i_weather_length : Int32) (i_weather_cycle : Int32) (i_town_houses : Int32) (i_rule_length : Int32) (i_rule_drafted : Int32) (a_weather_inches : Nat → Int32) (a_town_hold : Nat → Int32) (a_town_below : Nat → Int32) (a_rule_things : Nat → Int32) (a_rule_stack : Nat → Int32) (a_rule_code : Nat → Int32) (a_told : Nat → Int32) : va_W := [(q0, .inr (11, [.ref q0_text, .ref q0_town, .ref q0_weather, .ref q0_rule, .ref q0_acts, .ref q0_real, .ref q0_trial, .ref q0_round, .ref q0_nights, .ref q0_before, .ref q0_history, .ref q0_kept, .ref q0_keptHouses, .ref q0_shortest, .ref q0_tracks, .ref q0_tally, .ref q0_told, .int i_toldCount])), (q0_real, .inr (9, [.ref q0_town, .ref q0_weather, .ref q0_rule, .ref q0_real_state, .ref q0_real_owedBy, .int i_real_owed, .int i_real_slides, .int i_real_struck, .int i_real_slid])), (q0_trial, .inr (9, [.ref q0_town, .ref q0_weather, .ref q0_rule, .ref q0_trial_state, .ref q0_trial_owedBy, .int i_trial_owed, .int i_trial_slides, .int i_trial_struck, .int i_trial_slid])), (q0_trial_state, .inr (5, [.ref q0_trial_state_snow, .ref q0_trial_state_path, .ref q0_trial_state_debt, .int i_trial_state_now])), (q0_real_state, .inr (5, [.ref q0_real_state_snow, .ref q0_real_state_path, .ref q0_real_state_debt, .int i_real_state_now])), (q0_trial_state_snow, .inl (E.2.1, 14, .inl a_trial_state_snow)), (q0_trial_state_path, .inl (E.2.1, 7, .inl a_trial_state_path)), (q0_trial_state_debt, .inl (E.2.1, 49, .inl a_trial_state_debt)), (q0_trial_owedBy, .inl (E.2.1, 7, .inl a_trial_owedBy)), (q0_real_state_snow, .inl (E.2.1, 14, .inl a_real_state_snow)), (q0_real_state_path, .inl (E.2.1, 7, .inl a_real_state_path)), (q0_real_state_debt, .inl (E.2.1, 49, .inl a_real_state_debt)), (q0_weather, .inr (10, [.ref q0_weather_inches, .int i_weather_length, .int i_weather_cycle])), (q0_town, .inr (7, [.ref q0_town_hold, .ref q0_town_below, .ref q0_town_hay, .int i_town_houses])), (q0_rule, .inr (4, [.ref q0_rule_code, .ref q0_rule_draft, .ref q0_rule_stack, .ref q0_rule_things, .int i_rule_length, .int i_rule_drafted])), (q0_weather_inches, .inl (E.2.1, 40, .inl a_weather_inches)), (q0_town_hold, .inl (E.2.1, 7, .inl a_town_hold)), (q0_town_below, .inl (E.2.1, 14, .inl a_town_below)), (q0_rule_things, .inl (E.2.1, 8, .inl a_rule_things)), (q0_rule_stack, .inl (E.2.1, 40, .inl a_rule_stack)), (q0_rule_code, .inl (E.2.1, 40, .inl a_rule_code)), (q0_told, .inl (E.2.1, 8, .inl a_told))]
set_option maxHeartbeats 4000000 in
set_option maxRecDepth 20000 in
theorem kX11_worst (l : Launch) (E : ENV) (q0 : Nat) (q0_text : Nat) (q0_town : Nat) (q0_weather : Nat) (q0_rule : Nat) (q0_acts : Nat) (q0_real : Nat) (q0_trial : Nat) (q0_round : Nat) (q0_nights : Nat) (q0_before : Nat) (q0_history : Nat) (q0_kept : Nat) (q0_keptHouses : Nat) (q0_shortest : Nat) (q0_tracks : Nat) (q0_tally : Nat) (q0_told : Nat) (q0_real_state : Nat) (q0_real_owedBy : Nat) (q0_trial_state : Nat) (q0_trial_owedBy : Nat) (q0_trial_state_snow : Nat) (q0_trial_state_path : Nat) (q0_trial_state_debt : Nat) (q0_real_state_snow : Nat) (q0_real_state_path : Nat) (q0_real_state_debt : Nat) (q0_weather_inches : Nat) (q0_town_hold : Nat) (q0_town_below : Nat) (q0_town_hay : Nat) (q0_rule_code : Nat) (q0_rule_draft : Nat) (q0_rule_stack : Nat) (q0_rule_things : Nat) (i_toldCount : Int32) (i_real_owed : Int32) (i_real_slides : Int32) (i_real_struck : Int32) (i_real_slid : Int32) (i_trial_owed : Int32) (i_trial_slides : Int32) (i_trial_struck : Int32) (i_trial_slid : Int32) (i_trial_state_now : Int32) (i_real_state_now : Int32) (a_trial_state_snow : Nat → Int32) (a_trial_state_path : Nat → Int32) (a_trial_state_debt : Nat → Int32) (a_trial_owedBy : Nat → Int32) (a_real_state_snow : Nat → Int32) (a_real_state_path : Nat → Int32) (a_real_state_debt : Nat → Int32) (i_weather_length : Int32) (i_weather_cycle : Int32) (i_town_houses : Int32) (i_rule_length : Int32) (i_rule_drafted : Int32) (a_weather_inches : Nat → Int32) (a_town_hold : Nat → Int32) (a_town_below : Nat → Int32) (a_rule_things : Nat → Int32) (a_rule_stack : Nat → Int32) (a_rule_code : Nat → Int32) (a_told : Nat → Int32) (p1 : Int32) (o9 : Int32 × Int32 × Int32 × Int32 × Int32 × Int32 × Int32 × (Nat → Int32) × (Nat → Int32) × (Nat → Int32) × (Nat → Int32) × (Nat → Int32) × (Nat → Int32) × (Nat → Int32)) (hf : fX11_worst i_toldCount i_trial_owed i_trial_slides i_trial_struck i_trial_slid i_trial_state_now i_real_state_now a_trial_state_snow a_trial_state_path a_trial_state_debt a_trial_owedBy a_real_state_snow a_real_state_path a_real_state_debt i_weather_cycle i_town_houses i_rule_length a_weather_inches a_town_hold a_town_below a_rule_things a_rule_stack a_rule_code a_told p1 = some o9) : CI l E yX11_worst cX11_worst 6 (some .int) 4 [.ref q0, .int p1] (WX11_worst E q0 q0_text q0_town q0_weather q0_rule q0_acts q0_real q0_trial q0_round q0_nights q0_before q0_history q0_kept q0_keptHouses q0_shortest q0_tracks q0_tally q0_told q0_real_state q0_real_owedBy q0_trial_state q0_trial_owedBy q0_trial_state_snow q0_trial_state_path q0_trial_state_debt q0_real_state_snow q0_real_state_path q0_real_state_debt q0_weather_inches q0_town_hold q0_town_below q0_town_hay q0_rule_code q0_rule_draft q0_rule_stack q0_rule_things i_toldCount i_real_owed i_real_slides i_real_struck i_real_slid i_trial_owed i_trial_slides i_trial_struck i_trial_slid i_trial_state_now i_real_state_now a_trial_state_snow a_trial_state_path a_trial_state_debt a_trial_owedBy a_real_state_snow a_real_state_path a_real_state_debt i_weather_length i_weather_cycle i_town_houses i_rule_length i_rule_drafted a_weather_inches a_town_hold a_town_below a_rule_things a_rule_stack a_rule_code a_told) (WX11_worst E q0 q0_text q0_town q0_weather q0_rule q0_acts q0_real q0_trial q0_round q0_nights q0_before q0_history q0_kept q0_keptHouses q0_shortest q0_tracks q0_tally q0_told q0_real_state q0_real_owedBy q0_trial_state q0_trial_owedBy q0_trial_state_snow q0_trial_state_path q0_trial_state_debt q0_real_state_snow q0_real_state_path q0_real_state_debt q0_weather_inches q0_town_hold q0_town_below q0_town_hay q0_rule_code q0_rule_draft q0_rule_stack q0_rule_things o9.2.1 i_real_owed i_real_slides i_real_struck i_real_slid o9.2.2.1 o9.2.2.2.1 o9.2.2.2.2.1 o9.2.2.2.2.2.1 o9.2.2.2.2.2.2.1 i_real_state_now o9.2.2.2.2.2.2.2.1 o9.2.2.2.2.2.2.2.2.1 o9.2.2.2.2.2.2.2.2.2.1 o9.2.2.2.2.2.2.2.2.2.2.1 a_real_state_snow a_real_state_path a_real_state_debt i_weather_length i_weather_cycle i_town_houses i_rule_length i_rule_drafted a_weather_inches a_town_hold a_town_below o9.2.2.2.2.2.2.2.2.2.2.2.1 o9.2.2.2.2.2.2.2.2.2.2.2.2.1 a_rule_code o9.2.2.2.2.2.2.2.2.2.2.2.2.2) o9.1 := by
  refine begI (by decide +kernel) (Nat.le_of_ble_eq_true rfl) ?_
  intro p e s m args below meth c A Q C hA hret
  have hx := C.1
  have hb := C.2.1
  have L34 : ∀ (i_toldCount : Int32) (a_told : Nat → Int32), ∀ (n : Nat) (v2 : Int32) (v3 : Int32) (v4 : Int32) (i_trial_owed : Int32) (i_trial_slides : Int32) (i_trial_struck : Int32) (i_trial_slid : Int32) (i_trial_state_now : Int32) (a_trial_state_snow : Nat → Int32) (a_trial_state_path : Nat → Int32) (a_trial_state_debt : Nat → Int32) (a_trial_owedBy : Nat → Int32) (a_rule_things : Nat → Int32) (a_rule_stack : Nat → Int32) (o : Int32 × Int32 × Int32 × Int32 × Int32 × Int32 × Int32 × (Nat → Int32) × (Nat → Int32) × (Nat → Int32) × (Nat → Int32) × (Nat → Int32) × (Nat → Int32)), fX11_worst_L34 i_weather_cycle i_town_houses i_rule_length a_weather_inches a_town_hold a_town_below a_rule_code p1 n v2 v3 v4 i_trial_owed i_trial_slides i_trial_struck i_trial_slid i_trial_state_now a_trial_state_snow a_trial_state_path a_trial_state_debt a_trial_owedBy a_rule_things a_rule_stack = some o → (GO p l e 4 s m args below meth c Q E A 6 77 [] [(0, .ref q0), (2, .int o.1), (3, .int o.2.1)] (WX11_worst E q0 q0_text q0_town q0_weather q0_rule q0_acts q0_real q0_trial q0_round q0_nights q0_before q0_history q0_kept q0_keptHouses q0_shortest q0_tracks q0_tally q0_told q0_real_state q0_real_owedBy q0_trial_state q0_trial_owedBy q0_trial_state_snow q0_trial_state_path q0_trial_state_debt q0_real_state_snow q0_real_state_path q0_real_state_debt q0_weather_inches q0_town_hold q0_town_below q0_town_hay q0_rule_code q0_rule_draft q0_rule_stack q0_rule_things i_toldCount i_real_owed i_real_slides i_real_struck i_real_slid o.2.2.1 o.2.2.2.1 o.2.2.2.2.1 o.2.2.2.2.2.1 o.2.2.2.2.2.2.1 i_real_state_now o.2.2.2.2.2.2.2.1 o.2.2.2.2.2.2.2.2.1 o.2.2.2.2.2.2.2.2.2.1 o.2.2.2.2.2.2.2.2.2.2.1 a_real_state_snow a_real_state_path a_real_state_debt i_weather_length i_weather_cycle i_town_houses i_rule_length i_rule_drafted a_weather_inches a_town_hold a_town_below o.2.2.2.2.2.2.2.2.2.2.2.1 o.2.2.2.2.2.2.2.2.2.2.2.2 a_rule_code a_told)) → GO p l e 4 s m args below meth c Q E A 6 34 [] [(0, .ref q0), (1, .int p1), (2, .int v2), (3, .int v3), (4, .int v4)] (WX11_worst E q0 q0_text q0_town q0_weather q0_rule q0_acts q0_real q0_trial q0_round q0_nights q0_before q0_history q0_kept q0_keptHouses q0_shortest q0_tracks q0_tally q0_told q0_real_state q0_real_owedBy q0_trial_state q0_trial_owedBy q0_trial_state_snow q0_trial_state_path q0_trial_state_debt q0_real_state_snow q0_real_state_path q0_real_state_debt q0_weather_inches q0_town_hold q0_town_below q0_town_hay q0_rule_code q0_rule_draft q0_rule_stack q0_rule_things i_toldCount i_real_owed i_real_slides i_real_struck i_real_slid i_trial_owed i_trial_slides i_trial_struck i_trial_slid i_trial_state_now i_real_state_now a_trial_state_snow a_trial_state_path a_trial_state_debt a_trial_owedBy a_real_state_snow a_real_state_path a_real_state_debt i_weather_length i_weather_cycle i_town_houses i_rule_length i_rule_drafted a_weather_inches a_town_hold a_town_below a_rule_things a_rule_stack a_rule_code a_told) := by
    intro i_toldCount a_told
    intro n
    induction n with
    | zero =>
      intro v2 v3 v4 i_trial_owed i_trial_slides i_trial_struck i_trial_slid i_trial_state_now a_trial_state_snow a_trial_state_path a_trial_state_debt a_trial_owedBy a_rule_things a_rule_stack o hf
      have hf : none = some o := hf
      cases hf
    | succ n ih =>
      intro v2 v3 v4 i_trial_owed i_trial_slides i_trial_struck i_trial_slid i_trial_state_now a_trial_state_snow a_trial_state_path a_trial_state_debt a_trial_owedBy a_rule_things a_rule_stack o hf hE
      intro H locs ls hl hP hD hS
      rw [fX11_worst_L34] at hf
      refine lv_iload hx hb dX11_worst_34 (lv_at hl 4 rfl) ?_
      refine lv_iload_n hx hb dX11_worst_36 rfl (lv_at hl 1 rfl) ?_
      refine lv_icmp_gt (tgt := 77) hx hb dX11_worst_37 (by decide) (fun c6 => ?_) (fun c6 => ?_)
      · rw [if_pos c6] at hf
        have hf := Option.some.inj hf
        subst hf
        exact hE _ _ _ (lv_sub hl [0, 2, 3] rfl) hP hD hS
      · rw [if_neg c6] at hf
        refine lv_aload_n hx hb dX11_worst_40 rfl (lv_at hl 0 rfl) ?_
        refine gf_RX11_53 C hP 0 rfl rfl dX11_worst_41 ?_
        obtain ⟨o7, hg8, hf⟩ := bd_some hf
        refine k_VV2 (As := []) C K_RX11_340 (Nat.le_of_ble_eq_true rfl) (Nat.le_of_ble_eq_true rfl) (kX9_goDay l E q0_trial q0_town q0_weather q0_rule q0_trial_state q0_trial_owedBy q0_trial_state_snow q0_trial_state_path q0_trial_state_debt q0_weather_inches q0_town_hold q0_town_below q0_town_hay q0_rule_code q0_rule_draft q0_rule_stack q0_rule_things i_trial_owed i_trial_slides i_trial_struck i_trial_slid i_trial_state_now i_weather_length i_weather_cycle a_weather_inches i_town_houses a_trial_state_snow a_trial_state_path a_town_hold a_town_below i_rule_length i_rule_drafted a_rule_things a_rule_stack a_rule_code a_trial_state_debt a_trial_owedBy o7.1 o7.2.1 o7.2.2.1 o7.2.2.2.1 o7.2.2.2.2.1 o7.2.2.2.2.2.1 o7.2.2.2.2.2.2.1 o7.2.2.2.2.2.2.2.1 o7.2.2.2.2.2.2.2.2.1 o7.2.2.2.2.2.2.2.2.2.1 o7.2.2.2.2.2.2.2.2.2.2 hg8) [2, 3, 12, 15, 13, 5, 6, 16, 17, 14, 18, 19, 20, 7, 8] rfl rfl rfl (ci := 9) rfl rfl (q0 := 0) rfl hP hD hS hA hl.1 (Nat.le_of_ble_eq_true rfl) rfl dX11_worst_44 (ws2 := (WX11_worst E q0 q0_text q0_town q0_weather q0_rule q0_acts q0_real q0_trial q0_round q0_nights q0_before q0_history q0_kept q0_keptHouses q0_shortest q0_tracks q0_tally q0_told q0_real_state q0_real_owedBy q0_trial_state q0_trial_owedBy q0_trial_state_snow q0_trial_state_path q0_trial_state_debt q0_real_state_snow q0_real_state_path q0_real_state_debt q0_weather_inches q0_town_hold q0_town_below q0_town_hay q0_rule_code q0_rule_draft q0_rule_stack q0_rule_things i_toldCount i_real_owed i_real_slides i_real_struck i_real_slid o7.1 o7.2.1 o7.2.2.1 o7.2.2.2.1 o7.2.2.2.2.1 i_real_state_now o7.2.2.2.2.2.1 o7.2.2.2.2.2.2.1 o7.2.2.2.2.2.2.2.2.2.1 o7.2.2.2.2.2.2.2.2.2.2 a_real_state_snow a_real_state_path a_real_state_debt i_weather_length i_weather_cycle i_town_houses i_rule_length i_rule_drafted a_weather_inches a_town_hold a_town_below o7.2.2.2.2.2.2.2.1 o7.2.2.2.2.2.2.2.2.1 a_rule_code a_told)) 22 [0, 1, 4, 9, 10, 11, 21] rfl rfl rfl rfl (by decide +kernel) (fun H locs hP hD hS => ?_)
        refine lv_aload_n hx hb dX11_worst_47 rfl (lv_at hl 0 rfl) ?_
        refine gf_RX11_53 C hP 0 rfl rfl dX11_worst_48 ?_
        refine gf_RX11_343 C hP 2 rfl rfl dX11_worst_51 ?_
        obtain ⟨o9, hg10, hf⟩ := bd_some hf
        refine k_SI2 (As := [.int o7.2.2.2.1]) C K_RX11_346 (Nat.le_of_ble_eq_true rfl) (Nat.le_of_ble_eq_true rfl) (kJ6_bitCount_0f7a4 l E o7.2.2.2.1 o9 hg10) [] rfl rfl rfl  hP hD hS hA hl.1 (Nat.le_of_ble_eq_true rfl) rfl dX11_worst_54 (ws2 := (WX11_worst E q0 q0_text q0_town q0_weather q0_rule q0_acts q0_real q0_trial q0_round q0_nights q0_before q0_history q0_kept q0_keptHouses q0_shortest q0_tracks q0_tally q0_told q0_real_state q0_real_owedBy q0_trial_state q0_trial_owedBy q0_trial_state_snow q0_trial_state_path q0_trial_state_debt q0_real_state_snow q0_real_state_path q0_real_state_debt q0_weather_inches q0_town_hold q0_town_below q0_town_hay q0_rule_code q0_rule_draft q0_rule_stack q0_rule_things i_toldCount i_real_owed i_real_slides i_real_struck i_real_slid o7.1 o7.2.1 o7.2.2.1 o7.2.2.2.1 o7.2.2.2.2.1 i_real_state_now o7.2.2.2.2.2.1 o7.2.2.2.2.2.2.1 o7.2.2.2.2.2.2.2.2.2.1 o7.2.2.2.2.2.2.2.2.2.2 a_real_state_snow a_real_state_path a_real_state_debt i_weather_length i_weather_cycle i_town_houses i_rule_length i_rule_drafted a_weather_inches a_town_hold a_town_below o7.2.2.2.2.2.2.2.1 o7.2.2.2.2.2.2.2.2.1 a_rule_code a_told)) 22 [0, 1, 2, 3, 4, 5, 6, 7, 8, 9, 10, 11, 12, 13, 14, 15, 16, 17, 18, 19, 20, 21] rfl rfl rfl rfl (by decide +kernel) (fun H locs hP hD hS => ?_)
        refine lv_istore (lv' := [(5, .int o9), (0, .ref q0), (1, .int p1), (2, .int v2), (3, .int v3), (4, .int v4)]) hx hb dX11_worst_57 hl (by decide) rfl (fun ls hl => ?_)
        refine lv_iload hx hb dX11_worst_59 (lv_at hl 0 rfl) ?_
        refine lv_iload_n hx hb dX11_worst_61 rfl (lv_at hl 4 rfl) ?_
        refine lv_icmp_le (tgt := 71) hx hb dX11_worst_62 (by decide) (fun c11 => ?_) (fun c11 => ?_)
        · rw [if_pos c11] at hf
          refine lv_iinc (v := (v4 + 1)) (lv' := [(4, .int ((v4 + 1))), (5, .int o9), (0, .ref q0), (1, .int p1), (2, .int v2), (3, .int v3)]) hx hb dX11_worst_71 hl (k := 5) rfl rfl (by decide) rfl (fun ls hl => ?_)
          refine lv_goto (tgt := 34) hx hb dX11_worst_74 (by decide) ?_
          exact ih v2 v3 ((v4 + 1)) o7.1 o7.2.1 o7.2.2.1 o7.2.2.2.1 o7.2.2.2.2.1 o7.2.2.2.2.2.1 o7.2.2.2.2.2.2.1 o7.2.2.2.2.2.2.2.2.2.1 o7.2.2.2.2.2.2.2.2.2.2 o7.2.2.2.2.2.2.2.1 o7.2.2.2.2.2.2.2.2.1 _ hf hE _ _ _ (lv_sub hl [2, 3, 4, 5, 0] rfl) hP hD hS
        · rw [if_neg c11] at hf
          refine lv_iload hx hb dX11_worst_65 (lv_at hl 0 rfl) ?_
          refine lv_istore_n (lv' := [(3, .int o9), (5, .int o9), (0, .ref q0), (1, .int p1), (2, .int v2), (4, .int v4)]) hx hb dX11_worst_67 rfl hl (by decide) rfl (fun ls hl => ?_)
          refine lv_iload hx hb dX11_worst_68 (lv_at hl 5 rfl) ?_
          refine lv_istore_n (lv' := [(2, .int v4), (3, .int o9), (5, .int o9), (0, .ref q0), (1, .int p1), (4, .int v4)]) hx hb dX11_worst_70 rfl hl (by decide) rfl (fun ls hl => ?_)
          refine lv_iinc (v := (v4 + 1)) (lv' := [(4, .int ((v4 + 1))), (2, .int v4), (3, .int o9), (5, .int o9), (0, .ref q0), (1, .int p1)]) hx hb dX11_worst_71 hl (k := 5) rfl rfl (by decide) rfl (fun ls hl => ?_)
          refine lv_goto (tgt := 34) hx hb dX11_worst_74 (by decide) ?_
          exact ih v4 o9 ((v4 + 1)) o7.1 o7.2.1 o7.2.2.1 o7.2.2.2.1 o7.2.2.2.2.1 o7.2.2.2.2.2.1 o7.2.2.2.2.2.2.1 o7.2.2.2.2.2.2.2.2.2.1 o7.2.2.2.2.2.2.2.2.2.2 o7.2.2.2.2.2.2.2.1 o7.2.2.2.2.2.2.2.2.1 _ hf hE _ _ _ (lv_sub hl [4, 5, 1, 2, 0] rfl) hP hD hS
  intro H locs ls hl hP hD hS
  have hl : lv_has ls 6 [(0, .ref q0), (1, .int p1)] := hl
  unfold fX11_worst at hf
  refine lv_iload_n hx hb dX11_worst_0 rfl (lv_at hl 1 rfl) ?_
  refine lv_iconst (v := 1) hx hb dX11_worst_1 (by decide) ?_
  refine lv_bipush (v := 60) hx hb dX11_worst_2 (by decide) ?_
  obtain ⟨o1, hg2, hf⟩ := bd_some hf
  refine k_SI2 (As := [.int p1, .int 1, .int 60]) C K_RX11_128 (Nat.le_of_ble_eq_true rfl) (Nat.le_of_ble_eq_true rfl) (kX11_isWithin l E p1 1 60 o1 hg2) [] rfl rfl rfl  hP hD hS hA hl.1 (Nat.le_of_ble_eq_true rfl) rfl dX11_worst_4 (ws2 := (WX11_worst E q0 q0_text q0_town q0_weather q0_rule q0_acts q0_real q0_trial q0_round q0_nights q0_before q0_history q0_kept q0_keptHouses q0_shortest q0_tracks q0_tally q0_told q0_real_state q0_real_owedBy q0_trial_state q0_trial_owedBy q0_trial_state_snow q0_trial_state_path q0_trial_state_debt q0_real_state_snow q0_real_state_path q0_real_state_debt q0_weather_inches q0_town_hold q0_town_below q0_town_hay q0_rule_code q0_rule_draft q0_rule_stack q0_rule_things i_toldCount i_real_owed i_real_slides i_real_struck i_real_slid i_trial_owed i_trial_slides i_trial_struck i_trial_slid i_trial_state_now i_real_state_now a_trial_state_snow a_trial_state_path a_trial_state_debt a_trial_owedBy a_real_state_snow a_real_state_path a_real_state_debt i_weather_length i_weather_cycle i_town_houses i_rule_length i_rule_drafted a_weather_inches a_town_hold a_town_below a_rule_things a_rule_stack a_rule_code a_told)) 22 [0, 1, 2, 3, 4, 5, 6, 7, 8, 9, 10, 11, 12, 13, 14, 15, 16, 17, 18, 19, 20, 21] rfl rfl rfl rfl (by decide +kernel) (fun H locs hP hD hS => ?_)
  refine lv_if_ne (tgt := 12) hx hb dX11_worst_7 (by decide) (fun c3 => ?_) (fun c3 => ?_)
  · rw [if_neg c3] at hf
    refine lv_bipush (v := (-2)) hx hb dX11_worst_12 (by decide) ?_
    refine lv_istore_n (lv' := [(2, .int ((-2))), (0, .ref q0), (1, .int p1)]) hx hb dX11_worst_14 rfl hl (by decide) rfl (fun ls hl => ?_)
    refine lv_iconst (v := 0) hx hb dX11_worst_15 (by decide) ?_
    refine lv_istore_n (lv' := [(3, .int 0), (2, .int ((-2))), (0, .ref q0), (1, .int p1)]) hx hb dX11_worst_16 rfl hl (by decide) rfl (fun ls hl => ?_)
    refine lv_aload_n hx hb dX11_worst_17 rfl (lv_at hl 2 rfl) ?_
    refine gf_RX11_53 C hP 0 rfl rfl dX11_worst_18 ?_
    refine lv_aload_n hx hb dX11_worst_21 rfl (lv_at hl 2 rfl) ?_
    refine gf_RX11_49 C hP 0 rfl rfl dX11_worst_22 ?_
    refine gf_RX11_148 C hP 1 rfl rfl dX11_worst_25 ?_
    obtain ⟨o4, hg5, hf⟩ := bd_some hf
    refine k_VV2 (As := [.ref q0_real_state]) C K_RX11_337 (Nat.le_of_ble_eq_true rfl) (Nat.le_of_ble_eq_true rfl) (kX9_beginAt l E q0_trial q0_town q0_weather q0_rule q0_trial_state q0_trial_owedBy q0_trial_state_snow q0_trial_state_path q0_trial_state_debt q0_real_state q0_real_state_snow q0_real_state_path q0_real_state_debt i_trial_owed i_trial_slides i_trial_struck i_trial_slid i_trial_state_now a_trial_state_snow a_trial_state_path a_trial_state_debt a_trial_owedBy i_real_state_now a_real_state_snow a_real_state_path a_real_state_debt o4.1 o4.2.1 o4.2.2.1 o4.2.2.2.1 o4.2.2.2.2.1 o4.2.2.2.2.2.1 o4.2.2.2.2.2.2.1 o4.2.2.2.2.2.2.2.1 o4.2.2.2.2.2.2.2.2 hg5) [2, 3, 5, 6, 7, 8, 4, 9, 10, 11] rfl rfl rfl (ci := 9) rfl rfl (q0 := 0) rfl hP hD hS hA hl.1 (Nat.le_of_ble_eq_true rfl) rfl dX11_worst_28 (ws2 := (WX11_worst E q0 q0_text q0_town q0_weather q0_rule q0_acts q0_real q0_trial q0_round q0_nights q0_before q0_history q0_kept q0_keptHouses q0_shortest q0_tracks q0_tally q0_told q0_real_state q0_real_owedBy q0_trial_state q0_trial_owedBy q0_trial_state_snow q0_trial_state_path q0_trial_state_debt q0_real_state_snow q0_real_state_path q0_real_state_debt q0_weather_inches q0_town_hold q0_town_below q0_town_hay q0_rule_code q0_rule_draft q0_rule_stack q0_rule_things i_toldCount i_real_owed i_real_slides i_real_struck i_real_slid o4.1 o4.2.1 o4.2.2.1 o4.2.2.2.1 o4.2.2.2.2.1 i_real_state_now o4.2.2.2.2.2.1 o4.2.2.2.2.2.2.1 o4.2.2.2.2.2.2.2.1 o4.2.2.2.2.2.2.2.2 a_real_state_snow a_real_state_path a_real_state_debt i_weather_length i_weather_cycle i_town_houses i_rule_length i_rule_drafted a_weather_inches a_town_hold a_town_below a_rule_things a_rule_stack a_rule_code a_told)) 22 [0, 1, 12, 13, 14, 15, 16, 17, 18, 19, 20, 21] rfl rfl rfl rfl (by decide +kernel) (fun H locs hP hD hS => ?_)
    refine lv_iconst (v := 1) hx hb dX11_worst_31 (by decide) ?_
    refine lv_istore (lv' := [(4, .int 1), (3, .int 0), (2, .int ((-2))), (0, .ref q0), (1, .int p1)]) hx hb dX11_worst_32 hl (by decide) rfl (fun ls hl => ?_)
    obtain ⟨o12, hg13, hf⟩ := bd_some hf
    refine L34 i_toldCount a_told FU ((-2)) 0 1 o4.1 o4.2.1 o4.2.2.1 o4.2.2.2.1 o4.2.2.2.2.1 o4.2.2.2.2.2.1 o4.2.2.2.2.2.2.1 o4.2.2.2.2.2.2.2.1 o4.2.2.2.2.2.2.2.2 a_rule_things a_rule_stack o12 hg13 ?_ _ _ _ (lv_sub hl [3, 4, 2, 1, 0] rfl) hP hD hS
    intro H locs ls hl hP hD hS
    refine lv_iload_n hx hb dX11_worst_77 rfl (lv_at hl 2 rfl) ?_
    refine lv_if_le (tgt := 86) hx hb dX11_worst_78 (by decide) (fun c14 => ?_) (fun c14 => ?_)
    · rw [if_pos c14] at hf
      refine lv_iload_n hx hb dX11_worst_86 rfl (lv_at hl 1 rfl) ?_
      have hj0 := Option.some.inj hf
      subst hj0
      exact hret _ _ _ _ dX11_worst_87 rfl hP hD hS
    · rw [if_neg c14] at hf
      refine lv_aload_n hx hb dX11_worst_81 rfl (lv_at hl 0 rfl) ?_
      refine lv_iload_n hx hb dX11_worst_82 rfl (lv_at hl 2 rfl) ?_
      obtain ⟨o15, hg16, hf⟩ := bd_some hf
      refine k_VV2 (As := [.int o12.2.1]) C K_RX11_244 (Nat.le_of_ble_eq_true rfl) (Nat.le_of_ble_eq_true rfl) (kX11_tell l E q0 q0_text q0_town q0_weather q0_rule q0_acts q0_real q0_trial q0_round q0_nights q0_before q0_history q0_kept q0_keptHouses q0_shortest q0_tracks q0_tally q0_told i_toldCount a_told o12.2.1 o15 hg16) [0, 21] rfl rfl rfl (ci := 11) rfl rfl (q0 := 0) rfl hP hD hS hA hl.1 (Nat.le_of_ble_eq_true rfl) rfl dX11_worst_83 (ws2 := (WX11_worst E q0 q0_text q0_town q0_weather q0_rule q0_acts q0_real q0_trial q0_round q0_nights q0_before q0_history q0_kept q0_keptHouses q0_shortest q0_tracks q0_tally q0_told q0_real_state q0_real_owedBy q0_trial_state q0_trial_owedBy q0_trial_state_snow q0_trial_state_path q0_trial_state_debt q0_real_state_snow q0_real_state_path q0_real_state_debt q0_weather_inches q0_town_hold q0_town_below q0_town_hay q0_rule_code q0_rule_draft q0_rule_stack q0_rule_things o15.1 i_real_owed i_real_slides i_real_struck i_real_slid o12.2.2.1 o12.2.2.2.1 o12.2.2.2.2.1 o12.2.2.2.2.2.1 o12.2.2.2.2.2.2.1 i_real_state_now o12.2.2.2.2.2.2.2.1 o12.2.2.2.2.2.2.2.2.1 o12.2.2.2.2.2.2.2.2.2.1 o12.2.2.2.2.2.2.2.2.2.2.1 a_real_state_snow a_real_state_path a_real_state_debt i_weather_length i_weather_cycle i_town_houses i_rule_length i_rule_drafted a_weather_inches a_town_hold a_town_below o12.2.2.2.2.2.2.2.2.2.2.2.1 o12.2.2.2.2.2.2.2.2.2.2.2.2 a_rule_code o15.2)) 22 [1, 2, 3, 4, 5, 6, 7, 8, 9, 10, 11, 12, 13, 14, 15, 16, 17, 18, 19, 20] rfl rfl rfl rfl (by decide +kernel) (fun H locs hP hD hS => ?_)
      refine lv_iload_n hx hb dX11_worst_86 rfl (lv_at hl 1 rfl) ?_
      have hj0 := Option.some.inj hf
      subst hj0
      exact hret _ _ _ _ dX11_worst_87 rfl hP hD hS
  · rw [if_pos c3] at hf
    refine lv_iconst (v := (-1)) hx hb dX11_worst_10 (by decide) ?_
    have hj0 := Option.some.inj hf
    subst hj0
    exact hret _ _ _ _ dX11_worst_11 rfl hP hD hS
theorem K_RX11_351 : KV RX11 351 yX5_onRoofs cX5_onRoofs 1 (some .int) 0 := ⟨Tg_mem 1081 (by decide +kernel) (by decide +kernel), Tg_mem 97 (by decide +kernel) (by decide +kernel), Tg_mem 1078 (by decide +kernel) (by decide +kernel), Tg_mem 1079 (by decide +kernel) (by decide +kernel), Tg_mem 1080 (by decide +kernel) (by decide +kernel), by decide +kernel⟩
