theorem dX11_melt_0 : decode cX11_melt 0 = .ok (.aload_n 0, 1) := by decide +kernel
theorem dX11_melt_1 : decode cX11_melt 1 = .ok (.getfield 53, 3) := by decide +kernel
theorem dX11_melt_4 : decode cX11_melt 4 = .ok (.aload_n 0, 1) := by decide +kernel
theorem dX11_melt_5 : decode cX11_melt 5 = .ok (.getfield 49, 3) := by decide +kernel
theorem dX11_melt_8 : decode cX11_melt 8 = .ok (.getfield 148, 3) := by decide +kernel
theorem dX11_melt_11 : decode cX11_melt 11 = .ok (.invokevirtual 337, 3) := by decide +kernel
theorem dX11_melt_14 : decode cX11_melt 14 = .ok (.iconst 0, 1) := by decide +kernel
theorem dX11_melt_15 : decode cX11_melt 15 = .ok (.istore_n 1, 1) := by decide +kernel
theorem dX11_melt_16 : decode cX11_melt 16 = .ok (.iload_n 1, 1) := by decide +kernel
theorem dX11_melt_17 : decode cX11_melt 17 = .ok (.bipush 60, 2) := by decide +kernel
theorem dX11_melt_19 : decode cX11_melt 19 = .ok (.if_icmp .gt 44, 3) := by decide +kernel
theorem dX11_melt_22 : decode cX11_melt 22 = .ok (.aload_n 0, 1) := by decide +kernel
theorem dX11_melt_23 : decode cX11_melt 23 = .ok (.getfield 53, 3) := by decide +kernel
theorem dX11_melt_26 : decode cX11_melt 26 = .ok (.getfield 148, 3) := by decide +kernel
theorem dX11_melt_29 : decode cX11_melt 29 = .ok (.invokevirtual 351, 3) := by decide +kernel
theorem dX11_melt_32 : decode cX11_melt 32 = .ok (.ifCond .ne 18, 3) := by decide +kernel
theorem dX11_melt_35 : decode cX11_melt 35 = .ok (.aload_n 0, 1) := by decide +kernel
theorem dX11_melt_36 : decode cX11_melt 36 = .ok (.getfield 53, 3) := by decide +kernel
theorem dX11_melt_39 : decode cX11_melt 39 = .ok (.getfield 148, 3) := by decide +kernel
theorem dX11_melt_42 : decode cX11_melt 42 = .ok (.invokevirtual 218, 3) := by decide +kernel
theorem dX11_melt_45 : decode cX11_melt 45 = .ok (.ifCond .ne 5, 3) := by decide +kernel
theorem dX11_melt_48 : decode cX11_melt 48 = .ok (.iload_n 1, 1) := by decide +kernel
theorem dX11_melt_49 : decode cX11_melt 49 = .ok (.ireturn, 1) := by decide +kernel
theorem dX11_melt_50 : decode cX11_melt 50 = .ok (.aload_n 0, 1) := by decide +kernel
theorem dX11_melt_51 : decode cX11_melt 51 = .ok (.getfield 53, 3) := by decide +kernel
theorem dX11_melt_54 : decode cX11_melt 54 = .ok (.invokevirtual 340, 3) := by decide +kernel
theorem dX11_melt_57 : decode cX11_melt 57 = .ok (.iinc 1 1, 3) := by decide +kernel
theorem dX11_melt_60 : decode cX11_melt 60 = .ok (.goto (-44), 3) := by decide +kernel
theorem dX11_melt_63 : decode cX11_melt 63 = .ok (.bipush (-2), 2) := by decide +kernel
theorem dX11_melt_65 : decode cX11_melt 65 = .ok (.ireturn, 1) := by decide +kernel
def WX11_melt (E : ENV) (q0 : Nat) (q0_text : Nat) (q0_town : Nat) (q0_weather : Nat) (q0_rule : Nat) (q0_acts : Nat) (q0_real : Nat) (q0_trial : Nat) (q0_round : Nat) (q0_nights : Nat) (q0_before : Nat) (q0_history : Nat) (q0_kept : Nat) (q0_keptHouses : Nat) (q0_shortest : Nat) (q0_tracks : Nat) (q0_tally : Nat) (q0_told : Nat) (q0_real_state : Nat) (q0_real_owedBy : Nat) (q0_trial_state : Nat) (q0_trial_owedBy : Nat) (q0_trial_state_snow : Nat) (q0_trial_state_path : Nat) (q0_trial_state_debt : Nat) (q0_real_state_snow : Nat) (q0_real_state_path : Nat) (q0_real_state_debt : Nat) (q0_weather_inches : Nat) (q0_town_hold : Nat) (q0_town_below : Nat) (q0_town_hay : Nat) (q0_rule_code : Nat) (q0_rule_draft : Nat) (q0_rule_stack : Nat) (q0_rule_things : Nat) (i_toldCount : Int32) (i_real_owed : Int32) (i_real_slides : Int32) (i_real_struck : Int32) (i_real_slid : Int32) (i_trial_owed : Int32) (i_trial_slides : Int32) (i_trial_struck : Int32) (i_trial_slid : Int32) (i_trial_state_now : Int32) (i_real_state_now : Int32) (a_trial_state_snow : Nat → Int32) (a_trial_state_path : Nat → Int32) (a_trial_state_debt : Nat → Int32) (a_trial_owedBy : Nat → Int32) (a_real_state_snow : Nat → Int32) (a_real_state_path : Nat → Int32) (a_real_state_debt : Nat → Int32) (i_weather_length : Int32) (i_weather_cycle : Int32) (i_town_houses : Int32) (i_rule_length : Int32) (i_rule_drafted : Int32) (a_weather_inches : Nat → Int32) (a_town_hold : Nat → Int32) (a_town_below : Nat → Int32) (a_rule_things : Nat → Int32) (a_rule_stack : Nat → Int32) (a_rule_code : Nat → Int32) : va_W := [(q0, .inr (11, [.ref q0_text, .ref q0_town, .ref q0_weather, .ref q0_rule, .ref q0_acts, .ref q0_real, .ref q0_trial, .ref q0_round, .ref q0_nights, .ref q0_before, .ref q0_history, .ref q0_kept, .ref q0_keptHouses, .ref q0_shortest, .ref q0_tracks, .ref q0_tally, .ref q0_told, .int i_toldCount])), (q0_real, .inr (9, [.ref q0_town, .ref q0_weather, .ref q0_rule, .ref q0_real_state, .ref q0_real_owedBy, .int i_real_owed, .int i_real_slides, .int i_real_struck, .int i_real_slid])), (q0_trial, .inr (9, [.ref q0_town, .ref q0_weather, .ref q0_rule, .ref q0_trial_state, .ref q0_trial_owedBy, .int i_trial_owed, .int i_trial_slides, .int i_trial_struck, .int i_trial_slid])), (q0_trial_state, .inr (5, [.ref q0_trial_state_snow, .ref q0_trial_state_path, .ref q0_trial_state_debt, .int i_trial_state_now])), (q0_real_state, .inr (5, [.ref q0_real_state_snow, .ref q0_real_state_path, .ref q0_real_state_debt, .int i_real_state_now])), (q0_trial_state_snow, .inl (E.2.1, 14, .inl a_trial_state_snow)), (q0_trial_state_path, .inl (E.2.1, 7, .inl a_trial_state_path)), (q0_trial_state_debt, .inl (E.2.1, 49, .inl a_trial_state_debt)), (q0_trial_owedBy, .inl (E.2.1, 7, .inl a_trial_owedBy)), (q0_real_state_snow, .inl (E.2.1, 14, .inl a_real_state_snow)), (q0_real_state_path, .inl (E.2.1, 7, .inl a_real_state_path)), (q0_real_state_debt, .inl (E.2.1, 49, .inl a_real_state_debt)), (q0_weather, .inr (10, [.ref q0_weather_inches, .int i_weather_length, .int i_weather_cycle])), (q0_town, .inr (7, [.ref q0_town_hold, .ref q0_town_below, .ref q0_town_hay, .int i_town_houses])), (q0_rule, .inr (4, [.ref q0_rule_code, .ref q0_rule_draft, .ref q0_rule_stack, .ref q0_rule_things, .int i_rule_length, .int i_rule_drafted])), (q0_weather_inches, .inl (E.2.1, 40, .inl a_weather_inches)), (q0_town_hold, .inl (E.2.1, 7, .inl a_town_hold)), (q0_town_below, .inl (E.2.1, 14, .inl a_town_below)), (q0_rule_things, .inl (E.2.1, 8, .inl a_rule_things)), (q0_rule_stack, .inl (E.2.1, 40, .inl a_rule_stack)), (q0_rule_code, .inl (E.2.1, 40, .inl a_rule_code))]
set_option maxHeartbeats 4000000 in
set_option maxRecDepth 20000 in
theorem kX11_melt (l : Launch) (E : ENV) (q0 : Nat) (q0_text : Nat) (q0_town : Nat) (q0_weather : Nat) (q0_rule : Nat) (q0_acts : Nat) (q0_real : Nat) (q0_trial : Nat) (q0_round : Nat) (q0_nights : Nat) (q0_before : Nat) (q0_history : Nat) (q0_kept : Nat) (q0_keptHouses : Nat) (q0_shortest : Nat) (q0_tracks : Nat) (q0_tally : Nat) (q0_told : Nat) (q0_real_state : Nat) (q0_real_owedBy : Nat) (q0_trial_state : Nat) (q0_trial_owedBy : Nat) (q0_trial_state_snow : Nat) (q0_trial_state_path : Nat) (q0_trial_state_debt : Nat) (q0_real_state_snow : Nat) (q0_real_state_path : Nat) (q0_real_state_debt : Nat) (q0_weather_inches : Nat) (q0_town_hold : Nat) (q0_town_below : Nat) (q0_town_hay : Nat) (q0_rule_code : Nat) (q0_rule_draft : Nat) (q0_rule_stack : Nat) (q0_rule_things : Nat) (i_toldCount : Int32) (i_real_owed : Int32) (i_real_slides : Int32) (i_real_struck : Int32) (i_real_slid : Int32) (i_trial_owed : Int32) (i_trial_slides : Int32) (i_trial_struck : Int32) (i_trial_slid : Int32) (i_trial_state_now : Int32) (i_real_state_now : Int32) (a_trial_state_snow : Nat → Int32) (a_trial_state_path : Nat → Int32) (a_trial_state_debt : Nat → Int32) (a_trial_owedBy : Nat → Int32) (a_real_state_snow : Nat → Int32) (a_real_state_path : Nat → Int32) (a_real_state_debt : Nat → Int32) (i_weather_length : Int32) (i_weather_cycle : Int32) (i_town_houses : Int32) (i_rule_length : Int32) (i_rule_drafted : Int32) (a_weather_inches : Nat → Int32) (a_town_hold : Nat → Int32) (a_town_below : Nat → Int32) (a_rule_things : Nat → Int32) (a_rule_stack : Nat → Int32) (a_rule_code : Nat → Int32) (r9 : Int32) (i_trial_owed9 : Int32) (i_trial_slides9 : Int32) (i_trial_struck9 : Int32) (i_trial_slid9 : Int32) (i_trial_state_now9 : Int32) (a_trial_state_snow9 : Nat → Int32) (a_trial_state_path9 : Nat → Int32) (a_trial_state_debt9 : Nat → Int32) (a_trial_owedBy9 : Nat → Int32) (a_rule_things9 : Nat → Int32) (a_rule_stack9 : Nat → Int32) (hf : fX11_melt i_trial_owed i_trial_slides i_trial_struck i_trial_slid i_trial_state_now i_real_state_now a_trial_state_snow a_trial_state_path a_trial_state_debt a_trial_owedBy a_real_state_snow a_real_state_path a_real_state_debt i_weather_cycle i_town_houses i_rule_length a_weather_inches a_town_hold a_town_below a_rule_things a_rule_stack a_rule_code = some (r9, i_trial_owed9, i_trial_slides9, i_trial_struck9, i_trial_slid9, i_trial_state_now9, a_trial_state_snow9, a_trial_state_path9, a_trial_state_debt9, a_trial_owedBy9, a_rule_things9, a_rule_stack9)) : CI l E yX11_melt cX11_melt 2 (some .int) 4 [.ref q0] (WX11_melt E q0 q0_text q0_town q0_weather q0_rule q0_acts q0_real q0_trial q0_round q0_nights q0_before q0_history q0_kept q0_keptHouses q0_shortest q0_tracks q0_tally q0_told q0_real_state q0_real_owedBy q0_trial_state q0_trial_owedBy q0_trial_state_snow q0_trial_state_path q0_trial_state_debt q0_real_state_snow q0_real_state_path q0_real_state_debt q0_weather_inches q0_town_hold q0_town_below q0_town_hay q0_rule_code q0_rule_draft q0_rule_stack q0_rule_things i_toldCount i_real_owed i_real_slides i_real_struck i_real_slid i_trial_owed i_trial_slides i_trial_struck i_trial_slid i_trial_state_now i_real_state_now a_trial_state_snow a_trial_state_path a_trial_state_debt a_trial_owedBy a_real_state_snow a_real_state_path a_real_state_debt i_weather_length i_weather_cycle i_town_houses i_rule_length i_rule_drafted a_weather_inches a_town_hold a_town_below a_rule_things a_rule_stack a_rule_code) (WX11_melt E q0 q0_text q0_town q0_weather q0_rule q0_acts q0_real q0_trial q0_round q0_nights q0_before q0_history q0_kept q0_keptHouses q0_shortest q0_tracks q0_tally q0_told q0_real_state q0_real_owedBy q0_trial_state q0_trial_owedBy q0_trial_state_snow q0_trial_state_path q0_trial_state_debt q0_real_state_snow q0_real_state_path q0_real_state_debt q0_weather_inches q0_town_hold q0_town_below q0_town_hay q0_rule_code q0_rule_draft q0_rule_stack q0_rule_things i_toldCount i_real_owed i_real_slides i_real_struck i_real_slid i_trial_owed9 i_trial_slides9 i_trial_struck9 i_trial_slid9 i_trial_state_now9 i_real_state_now a_trial_state_snow9 a_trial_state_path9 a_trial_state_debt9 a_trial_owedBy9 a_real_state_snow a_real_state_path a_real_state_debt i_weather_length i_weather_cycle i_town_houses i_rule_length i_rule_drafted a_weather_inches a_town_hold a_town_below a_rule_things9 a_rule_stack9 a_rule_code) r9 := by
  refine begI (by decide +kernel) (Nat.le_of_ble_eq_true rfl) ?_
  intro p e s m args below meth c A Q C hA hret
  have hx := C.1
  have hb := C.2.1
  have L16 : ∀ (n : Nat) (v1 : Int32) (i_trial_owed : Int32) (i_trial_slides : Int32) (i_trial_struck : Int32) (i_trial_slid : Int32) (i_trial_state_now : Int32) (a_trial_state_snow : Nat → Int32) (a_trial_state_path : Nat → Int32) (a_trial_state_debt : Nat → Int32) (a_trial_owedBy : Nat → Int32) (a_rule_things : Nat → Int32) (a_rule_stack : Nat → Int32) (o : (Int32 × Int32 × Int32 × Int32 × Int32 × (Nat → Int32) × (Nat → Int32) × (Nat → Int32) × (Nat → Int32) × (Nat → Int32) × (Nat → Int32)) ⊕ (Int32 × Int32 × Int32 × Int32 × Int32 × Int32 × (Nat → Int32) × (Nat → Int32) × (Nat → Int32) × (Nat → Int32) × (Nat → Int32) × (Nat → Int32))), fX11_melt_L16 i_weather_cycle i_town_houses i_rule_length a_weather_inches a_town_hold a_town_below a_rule_code n v1 i_trial_owed i_trial_slides i_trial_struck i_trial_slid i_trial_state_now a_trial_state_snow a_trial_state_path a_trial_state_debt a_trial_owedBy a_rule_things a_rule_stack = some o → (∀ x, o = Sum.inl x → GO p l e 4 s m args below meth c Q E A 2 63 [] [] (WX11_melt E q0 q0_text q0_town q0_weather q0_rule q0_acts q0_real q0_trial q0_round q0_nights q0_before q0_history q0_kept q0_keptHouses q0_shortest q0_tracks q0_tally q0_told q0_real_state q0_real_owedBy q0_trial_state q0_trial_owedBy q0_trial_state_snow q0_trial_state_path q0_trial_state_debt q0_real_state_snow q0_real_state_path q0_real_state_debt q0_weather_inches q0_town_hold q0_town_below q0_town_hay q0_rule_code q0_rule_draft q0_rule_stack q0_rule_things i_toldCount i_real_owed i_real_slides i_real_struck i_real_slid x.1 x.2.1 x.2.2.1 x.2.2.2.1 x.2.2.2.2.1 i_real_state_now x.2.2.2.2.2.1 x.2.2.2.2.2.2.1 x.2.2.2.2.2.2.2.1 x.2.2.2.2.2.2.2.2.1 a_real_state_snow a_real_state_path a_real_state_debt i_weather_length i_weather_cycle i_town_houses i_rule_length i_rule_drafted a_weather_inches a_town_hold a_town_below x.2.2.2.2.2.2.2.2.2.1 x.2.2.2.2.2.2.2.2.2.2 a_rule_code)) → (∀ x, o = Sum.inr x → x = (r9, i_trial_owed9, i_trial_slides9, i_trial_struck9, i_trial_slid9, i_trial_state_now9, a_trial_state_snow9, a_trial_state_path9, a_trial_state_debt9, a_trial_owedBy9, a_rule_things9, a_rule_stack9)) → GO p l e 4 s m args below meth c Q E A 2 16 [] [(0, .ref q0), (1, .int v1)] (WX11_melt E q0 q0_text q0_town q0_weather q0_rule q0_acts q0_real q0_trial q0_round q0_nights q0_before q0_history q0_kept q0_keptHouses q0_shortest q0_tracks q0_tally q0_told q0_real_state q0_real_owedBy q0_trial_state q0_trial_owedBy q0_trial_state_snow q0_trial_state_path q0_trial_state_debt q0_real_state_snow q0_real_state_path q0_real_state_debt q0_weather_inches q0_town_hold q0_town_below q0_town_hay q0_rule_code q0_rule_draft q0_rule_stack q0_rule_things i_toldCount i_real_owed i_real_slides i_real_struck i_real_slid i_trial_owed i_trial_slides i_trial_struck i_trial_slid i_trial_state_now i_real_state_now a_trial_state_snow a_trial_state_path a_trial_state_debt a_trial_owedBy a_real_state_snow a_real_state_path a_real_state_debt i_weather_length i_weather_cycle i_town_houses i_rule_length i_rule_drafted a_weather_inches a_town_hold a_town_below a_rule_things a_rule_stack a_rule_code) := by
    intro n
    induction n with
    | zero =>
      intro v1 i_trial_owed i_trial_slides i_trial_struck i_trial_slid i_trial_state_now a_trial_state_snow a_trial_state_path a_trial_state_debt a_trial_owedBy a_rule_things a_rule_stack o hf
      have hf : none = some o := hf
      cases hf
    | succ n ih =>
      intro v1 i_trial_owed i_trial_slides i_trial_struck i_trial_slid i_trial_state_now a_trial_state_snow a_trial_state_path a_trial_state_debt a_trial_owedBy a_rule_things a_rule_stack o hf hE hR
      intro H locs ls hl hP hD hS
      rw [fX11_melt_L16] at hf
      refine lv_iload_n hx hb dX11_melt_16 rfl (lv_at hl 1 rfl) ?_
      refine lv_bipush (v := 60) hx hb dX11_melt_17 (by decide) ?_
      refine lv_icmp_gt (tgt := 63) hx hb dX11_melt_19 (by decide) (fun c3 => ?_) (fun c3 => ?_)
      · rw [if_pos c3] at hf
        have hf := Option.some.inj hf
        subst hf
        exact (hE _ rfl) _ _ _ (lv_sub hl [] rfl) hP hD hS
      · rw [if_neg c3] at hf
        refine lv_aload_n hx hb dX11_melt_22 rfl (lv_at hl 0 rfl) ?_
        refine gf_RX11_53 C hP 0 rfl rfl dX11_melt_23 ?_
        refine gf_RX11_148 C hP 2 rfl rfl dX11_melt_26 ?_
        obtain ⟨o4, hg5, hf⟩ := bd_some hf
        refine k_VI (As := []) C K_RX11_351 (Nat.le_of_ble_eq_true rfl) (Nat.le_of_ble_eq_true rfl) (kX5_onRoofs l E q0_trial_state q0_trial_state_snow q0_trial_state_path q0_trial_state_debt i_trial_state_now a_trial_state_snow o4 hg5) [3, 5] rfl rfl rfl (ci := 5) rfl rfl (q0 := 0) rfl hP hD hS hA hl.1 (Nat.le_of_ble_eq_true rfl) rfl dX11_melt_29 (fun H locs hP hD hS => ?_)
        have hP : va_P E.1 classes (WX11_melt E q0 q0_text q0_town q0_weather q0_rule q0_acts q0_real q0_trial q0_round q0_nights q0_before q0_history q0_kept q0_keptHouses q0_shortest q0_tracks q0_tally q0_told q0_real_state q0_real_owedBy q0_trial_state q0_trial_owedBy q0_trial_state_snow q0_trial_state_path q0_trial_state_debt q0_real_state_snow q0_real_state_path q0_real_state_debt q0_weather_inches q0_town_hold q0_town_below q0_town_hay q0_rule_code q0_rule_draft q0_rule_stack q0_rule_things i_toldCount i_real_owed i_real_slides i_real_struck i_real_slid i_trial_owed i_trial_slides i_trial_struck i_trial_slid i_trial_state_now i_real_state_now a_trial_state_snow a_trial_state_path a_trial_state_debt a_trial_owedBy a_real_state_snow a_real_state_path a_real_state_debt i_weather_length i_weather_cycle i_town_houses i_rule_length i_rule_drafted a_weather_inches a_town_hold a_town_below a_rule_things a_rule_stack a_rule_code) H := hP
        have hD : va_D A (WX11_melt E q0 q0_text q0_town q0_weather q0_rule q0_acts q0_real q0_trial q0_round q0_nights q0_before q0_history q0_kept q0_keptHouses q0_shortest q0_tracks q0_tally q0_told q0_real_state q0_real_owedBy q0_trial_state q0_trial_owedBy q0_trial_state_snow q0_trial_state_path q0_trial_state_debt q0_real_state_snow q0_real_state_path q0_real_state_debt q0_weather_inches q0_town_hold q0_town_below q0_town_hay q0_rule_code q0_rule_draft q0_rule_stack q0_rule_things i_toldCount i_real_owed i_real_slides i_real_struck i_real_slid i_trial_owed i_trial_slides i_trial_struck i_trial_slid i_trial_state_now i_real_state_now a_trial_state_snow a_trial_state_path a_trial_state_debt a_trial_owedBy a_real_state_snow a_real_state_path a_real_state_debt i_weather_length i_weather_cycle i_town_houses i_rule_length i_rule_drafted a_weather_inches a_town_hold a_town_below a_rule_things a_rule_stack a_rule_code) := hD
        refine lv_if_ne (tgt := 50) hx hb dX11_melt_32 (by decide) (fun c6 => ?_) (fun c6 => ?_)
        · rw [if_neg c6] at hf
          refine lv_aload_n hx hb dX11_melt_50 rfl (lv_at hl 0 rfl) ?_
          refine gf_RX11_53 C hP 0 rfl rfl dX11_melt_51 ?_
          obtain ⟨o7, hg8, hf⟩ := bd_some hf
          refine k_VV (As := []) C K_RX11_340 (Nat.le_of_ble_eq_true rfl) (Nat.le_of_ble_eq_true rfl) (kX9_goDay l E q0_trial q0_town q0_weather q0_rule q0_trial_state q0_trial_owedBy q0_trial_state_snow q0_trial_state_path q0_trial_state_debt q0_weather_inches q0_town_hold q0_town_below q0_town_hay q0_rule_code q0_rule_draft q0_rule_stack q0_rule_things i_trial_owed i_trial_slides i_trial_struck i_trial_slid i_trial_state_now i_weather_length i_weather_cycle a_weather_inches i_town_houses a_trial_state_snow a_trial_state_path a_town_hold a_town_below i_rule_length i_rule_drafted a_rule_things a_rule_stack a_rule_code a_trial_state_debt a_trial_owedBy o7.1 o7.2.1 o7.2.2.1 o7.2.2.2.1 o7.2.2.2.2.1 o7.2.2.2.2.2.1 o7.2.2.2.2.2.2.1 o7.2.2.2.2.2.2.2.1 o7.2.2.2.2.2.2.2.2.1 o7.2.2.2.2.2.2.2.2.2.1 o7.2.2.2.2.2.2.2.2.2.2 hg8) [2, 3, 12, 15, 13, 5, 6, 16, 17, 14, 18, 19, 20, 7, 8] rfl rfl rfl (ci := 9) rfl rfl (q0 := 0) rfl hP hD hS hA hl.1 (Nat.le_of_ble_eq_true rfl) rfl dX11_melt_54 (fun H locs hP hD hS => ?_)
          have hP : va_P E.1 classes (WX11_melt E q0 q0_text q0_town q0_weather q0_rule q0_acts q0_real q0_trial q0_round q0_nights q0_before q0_history q0_kept q0_keptHouses q0_shortest q0_tracks q0_tally q0_told q0_real_state q0_real_owedBy q0_trial_state q0_trial_owedBy q0_trial_state_snow q0_trial_state_path q0_trial_state_debt q0_real_state_snow q0_real_state_path q0_real_state_debt q0_weather_inches q0_town_hold q0_town_below q0_town_hay q0_rule_code q0_rule_draft q0_rule_stack q0_rule_things i_toldCount i_real_owed i_real_slides i_real_struck i_real_slid o7.1 o7.2.1 o7.2.2.1 o7.2.2.2.1 o7.2.2.2.2.1 i_real_state_now o7.2.2.2.2.2.1 o7.2.2.2.2.2.2.1 o7.2.2.2.2.2.2.2.2.2.1 o7.2.2.2.2.2.2.2.2.2.2 a_real_state_snow a_real_state_path a_real_state_debt i_weather_length i_weather_cycle i_town_houses i_rule_length i_rule_drafted a_weather_inches a_town_hold a_town_below o7.2.2.2.2.2.2.2.1 o7.2.2.2.2.2.2.2.2.1 a_rule_code) H := hP
          have hD : va_D A (WX11_melt E q0 q0_text q0_town q0_weather q0_rule q0_acts q0_real q0_trial q0_round q0_nights q0_before q0_history q0_kept q0_keptHouses q0_shortest q0_tracks q0_tally q0_told q0_real_state q0_real_owedBy q0_trial_state q0_trial_owedBy q0_trial_state_snow q0_trial_state_path q0_trial_state_debt q0_real_state_snow q0_real_state_path q0_real_state_debt q0_weather_inches q0_town_hold q0_town_below q0_town_hay q0_rule_code q0_rule_draft q0_rule_stack q0_rule_things i_toldCount i_real_owed i_real_slides i_real_struck i_real_slid o7.1 o7.2.1 o7.2.2.1 o7.2.2.2.1 o7.2.2.2.2.1 i_real_state_now o7.2.2.2.2.2.1 o7.2.2.2.2.2.2.1 o7.2.2.2.2.2.2.2.2.2.1 o7.2.2.2.2.2.2.2.2.2.2 a_real_state_snow a_real_state_path a_real_state_debt i_weather_length i_weather_cycle i_town_houses i_rule_length i_rule_drafted a_weather_inches a_town_hold a_town_below o7.2.2.2.2.2.2.2.1 o7.2.2.2.2.2.2.2.2.1 a_rule_code) := hD
          refine lv_iinc (v := (v1 + 1)) (lv' := [(1, .int ((v1 + 1))), (0, .ref q0)]) hx hb dX11_melt_57 hl (k := 1) rfl rfl (by decide) rfl (fun ls hl => ?_)
          refine lv_goto (tgt := 16) hx hb dX11_melt_60 (by decide) ?_
          exact ih ((v1 + 1)) o7.1 o7.2.1 o7.2.2.1 o7.2.2.2.1 o7.2.2.2.2.1 o7.2.2.2.2.2.1 o7.2.2.2.2.2.2.1 o7.2.2.2.2.2.2.2.2.2.1 o7.2.2.2.2.2.2.2.2.2.2 o7.2.2.2.2.2.2.2.1 o7.2.2.2.2.2.2.2.2.1 _ hf hE hR _ _ _ (lv_sub hl [1, 0] rfl) hP hD hS
        · rw [if_pos c6] at hf
          refine lv_aload_n hx hb dX11_melt_35 rfl (lv_at hl 0 rfl) ?_
          refine gf_RX11_53 C hP 0 rfl rfl dX11_melt_36 ?_
          refine gf_RX11_148 C hP 2 rfl rfl dX11_melt_39 ?_
          obtain ⟨o9, hg10, hf⟩ := bd_some hf
          refine k_VI (As := []) C K_RX11_218 (Nat.le_of_ble_eq_true rfl) (Nat.le_of_ble_eq_true rfl) (kX5_onPaths l E q0_trial_state q0_trial_state_snow q0_trial_state_path q0_trial_state_debt i_trial_state_now a_trial_state_path o9 hg10) [3, 6] rfl rfl rfl (ci := 5) rfl rfl (q0 := 0) rfl hP hD hS hA hl.1 (Nat.le_of_ble_eq_true rfl) rfl dX11_melt_42 (fun H locs hP hD hS => ?_)
          have hP : va_P E.1 classes (WX11_melt E q0 q0_text q0_town q0_weather q0_rule q0_acts q0_real q0_trial q0_round q0_nights q0_before q0_history q0_kept q0_keptHouses q0_shortest q0_tracks q0_tally q0_told q0_real_state q0_real_owedBy q0_trial_state q0_trial_owedBy q0_trial_state_snow q0_trial_state_path q0_trial_state_debt q0_real_state_snow q0_real_state_path q0_real_state_debt q0_weather_inches q0_town_hold q0_town_below q0_town_hay q0_rule_code q0_rule_draft q0_rule_stack q0_rule_things i_toldCount i_real_owed i_real_slides i_real_struck i_real_slid i_trial_owed i_trial_slides i_trial_struck i_trial_slid i_trial_state_now i_real_state_now a_trial_state_snow a_trial_state_path a_trial_state_debt a_trial_owedBy a_real_state_snow a_real_state_path a_real_state_debt i_weather_length i_weather_cycle i_town_houses i_rule_length i_rule_drafted a_weather_inches a_town_hold a_town_below a_rule_things a_rule_stack a_rule_code) H := hP
          have hD : va_D A (WX11_melt E q0 q0_text q0_town q0_weather q0_rule q0_acts q0_real q0_trial q0_round q0_nights q0_before q0_history q0_kept q0_keptHouses q0_shortest q0_tracks q0_tally q0_told q0_real_state q0_real_owedBy q0_trial_state q0_trial_owedBy q0_trial_state_snow q0_trial_state_path q0_trial_state_debt q0_real_state_snow q0_real_state_path q0_real_state_debt q0_weather_inches q0_town_hold q0_town_below q0_town_hay q0_rule_code q0_rule_draft q0_rule_stack q0_rule_things i_toldCount i_real_owed i_real_slides i_real_struck i_real_slid i_trial_owed i_trial_slides i_trial_struck i_trial_slid i_trial_state_now i_real_state_now a_trial_state_snow a_trial_state_path a_trial_state_debt a_trial_owedBy a_real_state_snow a_real_state_path a_real_state_debt i_weather_length i_weather_cycle i_town_houses i_rule_length i_rule_drafted a_weather_inches a_town_hold a_town_below a_rule_things a_rule_stack a_rule_code) := hD
          refine lv_if_ne (tgt := 50) hx hb dX11_melt_45 (by decide) (fun c11 => ?_) (fun c11 => ?_)
          · rw [if_neg c11] at hf
            refine lv_aload_n hx hb dX11_melt_50 rfl (lv_at hl 0 rfl) ?_
            refine gf_RX11_53 C hP 0 rfl rfl dX11_melt_51 ?_
            obtain ⟨o12, hg13, hf⟩ := bd_some hf
            refine k_VV (As := []) C K_RX11_340 (Nat.le_of_ble_eq_true rfl) (Nat.le_of_ble_eq_true rfl) (kX9_goDay l E q0_trial q0_town q0_weather q0_rule q0_trial_state q0_trial_owedBy q0_trial_state_snow q0_trial_state_path q0_trial_state_debt q0_weather_inches q0_town_hold q0_town_below q0_town_hay q0_rule_code q0_rule_draft q0_rule_stack q0_rule_things i_trial_owed i_trial_slides i_trial_struck i_trial_slid i_trial_state_now i_weather_length i_weather_cycle a_weather_inches i_town_houses a_trial_state_snow a_trial_state_path a_town_hold a_town_below i_rule_length i_rule_drafted a_rule_things a_rule_stack a_rule_code a_trial_state_debt a_trial_owedBy o12.1 o12.2.1 o12.2.2.1 o12.2.2.2.1 o12.2.2.2.2.1 o12.2.2.2.2.2.1 o12.2.2.2.2.2.2.1 o12.2.2.2.2.2.2.2.1 o12.2.2.2.2.2.2.2.2.1 o12.2.2.2.2.2.2.2.2.2.1 o12.2.2.2.2.2.2.2.2.2.2 hg13) [2, 3, 12, 15, 13, 5, 6, 16, 17, 14, 18, 19, 20, 7, 8] rfl rfl rfl (ci := 9) rfl rfl (q0 := 0) rfl hP hD hS hA hl.1 (Nat.le_of_ble_eq_true rfl) rfl dX11_melt_54 (fun H locs hP hD hS => ?_)
            have hP : va_P E.1 classes (WX11_melt E q0 q0_text q0_town q0_weather q0_rule q0_acts q0_real q0_trial q0_round q0_nights q0_before q0_history q0_kept q0_keptHouses q0_shortest q0_tracks q0_tally q0_told q0_real_state q0_real_owedBy q0_trial_state q0_trial_owedBy q0_trial_state_snow q0_trial_state_path q0_trial_state_debt q0_real_state_snow q0_real_state_path q0_real_state_debt q0_weather_inches q0_town_hold q0_town_below q0_town_hay q0_rule_code q0_rule_draft q0_rule_stack q0_rule_things i_toldCount i_real_owed i_real_slides i_real_struck i_real_slid o12.1 o12.2.1 o12.2.2.1 o12.2.2.2.1 o12.2.2.2.2.1 i_real_state_now o12.2.2.2.2.2.1 o12.2.2.2.2.2.2.1 o12.2.2.2.2.2.2.2.2.2.1 o12.2.2.2.2.2.2.2.2.2.2 a_real_state_snow a_real_state_path a_real_state_debt i_weather_length i_weather_cycle i_town_houses i_rule_length i_rule_drafted a_weather_inches a_town_hold a_town_below o12.2.2.2.2.2.2.2.1 o12.2.2.2.2.2.2.2.2.1 a_rule_code) H := hP
            have hD : va_D A (WX11_melt E q0 q0_text q0_town q0_weather q0_rule q0_acts q0_real q0_trial q0_round q0_nights q0_before q0_history q0_kept q0_keptHouses q0_shortest q0_tracks q0_tally q0_told q0_real_state q0_real_owedBy q0_trial_state q0_trial_owedBy q0_trial_state_snow q0_trial_state_path q0_trial_state_debt q0_real_state_snow q0_real_state_path q0_real_state_debt q0_weather_inches q0_town_hold q0_town_below q0_town_hay q0_rule_code q0_rule_draft q0_rule_stack q0_rule_things i_toldCount i_real_owed i_real_slides i_real_struck i_real_slid o12.1 o12.2.1 o12.2.2.1 o12.2.2.2.1 o12.2.2.2.2.1 i_real_state_now o12.2.2.2.2.2.1 o12.2.2.2.2.2.2.1 o12.2.2.2.2.2.2.2.2.2.1 o12.2.2.2.2.2.2.2.2.2.2 a_real_state_snow a_real_state_path a_real_state_debt i_weather_length i_weather_cycle i_town_houses i_rule_length i_rule_drafted a_weather_inches a_town_hold a_town_below o12.2.2.2.2.2.2.2.1 o12.2.2.2.2.2.2.2.2.1 a_rule_code) := hD
            refine lv_iinc (v := (v1 + 1)) (lv' := [(1, .int ((v1 + 1))), (0, .ref q0)]) hx hb dX11_melt_57 hl (k := 1) rfl rfl (by decide) rfl (fun ls hl => ?_)
            refine lv_goto (tgt := 16) hx hb dX11_melt_60 (by decide) ?_
            exact ih ((v1 + 1)) o12.1 o12.2.1 o12.2.2.1 o12.2.2.2.1 o12.2.2.2.2.1 o12.2.2.2.2.2.1 o12.2.2.2.2.2.2.1 o12.2.2.2.2.2.2.2.2.2.1 o12.2.2.2.2.2.2.2.2.2.2 o12.2.2.2.2.2.2.2.1 o12.2.2.2.2.2.2.2.2.1 _ hf hE hR _ _ _ (lv_sub hl [1, 0] rfl) hP hD hS
          · rw [if_pos c11] at hf
            refine lv_iload_n hx hb dX11_melt_48 rfl (lv_at hl 1 rfl) ?_
            have hf := Option.some.inj hf
            subst hf
            have hj0 := hR _ rfl
            obtain ⟨ha0, hj1⟩ := Prod.mk.inj hj0
            obtain ⟨ha1, hj2⟩ := Prod.mk.inj hj1
            obtain ⟨ha2, hj3⟩ := Prod.mk.inj hj2
            obtain ⟨ha3, hj4⟩ := Prod.mk.inj hj3
            obtain ⟨ha4, hj5⟩ := Prod.mk.inj hj4
            obtain ⟨ha5, hj6⟩ := Prod.mk.inj hj5
            obtain ⟨ha6, hj7⟩ := Prod.mk.inj hj6
            obtain ⟨ha7, hj8⟩ := Prod.mk.inj hj7
            obtain ⟨ha8, hj9⟩ := Prod.mk.inj hj8
            obtain ⟨ha9, hj10⟩ := Prod.mk.inj hj9
            obtain ⟨ha10, hj11⟩ := Prod.mk.inj hj10
            subst ha0
            subst ha1
            subst ha2
            subst ha3
            subst ha4
            subst ha5
            subst ha6
            subst ha7
            subst ha8
            subst ha9
            subst ha10
            subst hj11
            exact hret _ _ _ _ dX11_melt_49 rfl hP hD hS
  intro H locs ls hl hP hD hS
  have hl : lv_has ls 2 [(0, .ref q0)] := hl
  unfold fX11_melt at hf
  refine lv_aload_n hx hb dX11_melt_0 rfl (lv_at hl 0 rfl) ?_
  refine gf_RX11_53 C hP 0 rfl rfl dX11_melt_1 ?_
  refine lv_aload_n hx hb dX11_melt_4 rfl (lv_at hl 0 rfl) ?_
  refine gf_RX11_49 C hP 0 rfl rfl dX11_melt_5 ?_
  refine gf_RX11_148 C hP 1 rfl rfl dX11_melt_8 ?_
  obtain ⟨o1, hg2, hf⟩ := bd_some hf
  refine k_VV (As := [.ref q0_real_state]) C K_RX11_337 (Nat.le_of_ble_eq_true rfl) (Nat.le_of_ble_eq_true rfl) (kX9_beginAt l E q0_trial q0_town q0_weather q0_rule q0_trial_state q0_trial_owedBy q0_trial_state_snow q0_trial_state_path q0_trial_state_debt q0_real_state q0_real_state_snow q0_real_state_path q0_real_state_debt i_trial_owed i_trial_slides i_trial_struck i_trial_slid i_trial_state_now a_trial_state_snow a_trial_state_path a_trial_state_debt a_trial_owedBy i_real_state_now a_real_state_snow a_real_state_path a_real_state_debt o1.1 o1.2.1 o1.2.2.1 o1.2.2.2.1 o1.2.2.2.2.1 o1.2.2.2.2.2.1 o1.2.2.2.2.2.2.1 o1.2.2.2.2.2.2.2.1 o1.2.2.2.2.2.2.2.2 hg2) [2, 3, 5, 6, 7, 8, 4, 9, 10, 11] rfl rfl rfl (ci := 9) rfl rfl (q0 := 0) rfl hP hD hS hA hl.1 (Nat.le_of_ble_eq_true rfl) rfl dX11_melt_11 (fun H locs hP hD hS => ?_)
  have hP : va_P E.1 classes (WX11_melt E q0 q0_text q0_town q0_weather q0_rule q0_acts q0_real q0_trial q0_round q0_nights q0_before q0_history q0_kept q0_keptHouses q0_shortest q0_tracks q0_tally q0_told q0_real_state q0_real_owedBy q0_trial_state q0_trial_owedBy q0_trial_state_snow q0_trial_state_path q0_trial_state_debt q0_real_state_snow q0_real_state_path q0_real_state_debt q0_weather_inches q0_town_hold q0_town_below q0_town_hay q0_rule_code q0_rule_draft q0_rule_stack q0_rule_things i_toldCount i_real_owed i_real_slides i_real_struck i_real_slid o1.1 o1.2.1 o1.2.2.1 o1.2.2.2.1 o1.2.2.2.2.1 i_real_state_now o1.2.2.2.2.2.1 o1.2.2.2.2.2.2.1 o1.2.2.2.2.2.2.2.1 o1.2.2.2.2.2.2.2.2 a_real_state_snow a_real_state_path a_real_state_debt i_weather_length i_weather_cycle i_town_houses i_rule_length i_rule_drafted a_weather_inches a_town_hold a_town_below a_rule_things a_rule_stack a_rule_code) H := hP
  have hD : va_D A (WX11_melt E q0 q0_text q0_town q0_weather q0_rule q0_acts q0_real q0_trial q0_round q0_nights q0_before q0_history q0_kept q0_keptHouses q0_shortest q0_tracks q0_tally q0_told q0_real_state q0_real_owedBy q0_trial_state q0_trial_owedBy q0_trial_state_snow q0_trial_state_path q0_trial_state_debt q0_real_state_snow q0_real_state_path q0_real_state_debt q0_weather_inches q0_town_hold q0_town_below q0_town_hay q0_rule_code q0_rule_draft q0_rule_stack q0_rule_things i_toldCount i_real_owed i_real_slides i_real_struck i_real_slid o1.1 o1.2.1 o1.2.2.1 o1.2.2.2.1 o1.2.2.2.2.1 i_real_state_now o1.2.2.2.2.2.1 o1.2.2.2.2.2.2.1 o1.2.2.2.2.2.2.2.1 o1.2.2.2.2.2.2.2.2 a_real_state_snow a_real_state_path a_real_state_debt i_weather_length i_weather_cycle i_town_houses i_rule_length i_rule_drafted a_weather_inches a_town_hold a_town_below a_rule_things a_rule_stack a_rule_code) := hD
  refine lv_iconst (v := 0) hx hb dX11_melt_14 (by decide) ?_
  refine lv_istore_n (lv' := [(1, .int 0), (0, .ref q0)]) hx hb dX11_melt_15 rfl hl (by decide) rfl (fun ls hl => ?_)
  obtain ⟨o14, hg15, hf⟩ := bd_some hf
  refine L16 FU 0 o1.1 o1.2.1 o1.2.2.1 o1.2.2.2.1 o1.2.2.2.2.1 o1.2.2.2.2.2.1 o1.2.2.2.2.2.2.1 o1.2.2.2.2.2.2.2.1 o1.2.2.2.2.2.2.2.2 a_rule_things a_rule_stack o14 hg15 ?_ ?_ _ _ _ (lv_sub hl [1, 0] rfl) hP hD hS
  · intro x16 hxx
    rw [hxx, Sum.elim_inl] at hf
    intro H locs ls hl hP hD hS
    refine lv_bipush (v := (-2)) hx hb dX11_melt_63 (by decide) ?_
    have hj0 := Option.some.inj hf
    obtain ⟨ha0, hj1⟩ := Prod.mk.inj hj0
    obtain ⟨ha1, hj2⟩ := Prod.mk.inj hj1
    obtain ⟨ha2, hj3⟩ := Prod.mk.inj hj2
    obtain ⟨ha3, hj4⟩ := Prod.mk.inj hj3
    obtain ⟨ha4, hj5⟩ := Prod.mk.inj hj4
    obtain ⟨ha5, hj6⟩ := Prod.mk.inj hj5
    obtain ⟨ha6, hj7⟩ := Prod.mk.inj hj6
    obtain ⟨ha7, hj8⟩ := Prod.mk.inj hj7
    obtain ⟨ha8, hj9⟩ := Prod.mk.inj hj8
    obtain ⟨ha9, hj10⟩ := Prod.mk.inj hj9
    obtain ⟨ha10, hj11⟩ := Prod.mk.inj hj10
    subst ha0
    subst ha1
    subst ha2
    subst ha3
    subst ha4
    subst ha5
    subst ha6
    subst ha7
    subst ha8
    subst ha9
    subst ha10
    subst hj11
    exact hret _ _ _ _ dX11_melt_65 rfl hP hD hS
  · intro x hxx
    rw [hxx, Sum.elim_inr] at hf
    exact Option.some.inj hf
theorem K_RX11_354 : KV RX11 354 yX7_allBits cX7_allBits 1 (some .int) 0 := ⟨Tg_mem 1089 (by decide +kernel) (by decide +kernel), Tg_mem 92 (by decide +kernel) (by decide +kernel), Tg_mem 1086 (by decide +kernel) (by decide +kernel), Tg_mem 1087 (by decide +kernel) (by decide +kernel), Tg_mem 1088 (by decide +kernel) (by decide +kernel), by decide +kernel⟩
theorem q286 : Cond.fieldLinkNest RX11 357 "SnowForSummer$Walk" "struck" "I" "SnowForSummer" ∈ NL := NL_mem 286 (by decide +kernel) (by decide +kernel)
theorem gf_RX11_357 {p : Program} {l : Launch} {e : Env} {R : Room} {s : State} {m : MethodId} {args : Array Value} {below : List Frame} {meth : Method} {c : Code} {H : Heap} {locs : List Loc} {cells slots : Nat} {Q : State → Prop} {E : ENV} {cc : ByteArray} {n : Nat} {r : Option FieldType} {pc : Nat} {ls : Array Slot} {rest : List Value} {a : Nat} {ws : va_W} {nm ds : String} {fs : List Value} {A : Nat → Prop} {v : Value} (C : Cx E A ⟨RX11, nm, ds⟩ cc n r p s m args meth c) (hP : va_P E.1 classes ws H) (q0 : Nat) (he : ws[q0]? = some (a, .inr (9, fs))) (hv : fs[7]? = some v) (hdg : decode cc pc = .ok (.getfield 357, 3))
    (kk : W p l e R s m args below meth c H locs cells slots Q (F0 m (pc + 3) ls (v :: rest))) : W p l e R s m args below meth c H locs cells slots Q (F0 m pc ls (.ref a :: rest)) :=
  va_getN (C := RX9) (T := TX9) (N := 9) (Ts := wl ⟨RX11, nm, ds⟩ cc n r) C.1 C.2.1 C.2.2.2.2.1 (fun w h => List.mem_cons_of_mem _ (inT9 w h)) C.2.2.2.1 C.2.2.2.2.2.1 hP q0 he rfl 7 (by decide) (va_Nw.use rfl (C.2.2.2.2.2.2.2.2.1 _ q286)) (fun _ h9 => h9) hv hdg kk
theorem dX11_lazy_0 : decode cX11_lazy 0 = .ok (.iload_n 1, 1) := by decide +kernel
theorem dX11_lazy_1 : decode cX11_lazy 1 = .ok (.iconst 0, 1) := by decide +kernel
theorem dX11_lazy_2 : decode cX11_lazy 2 = .ok (.bipush 60, 2) := by decide +kernel
theorem dX11_lazy_4 : decode cX11_lazy 4 = .ok (.invokestatic 128, 3) := by decide +kernel
theorem dX11_lazy_7 : decode cX11_lazy 7 = .ok (.ifCond .ne 5, 3) := by decide +kernel
theorem dX11_lazy_10 : decode cX11_lazy 10 = .ok (.iconst (-1), 1) := by decide +kernel
theorem dX11_lazy_11 : decode cX11_lazy 11 = .ok (.ireturn, 1) := by decide +kernel
theorem dX11_lazy_12 : decode cX11_lazy 12 = .ok (.aload_n 0, 1) := by decide +kernel
theorem dX11_lazy_13 : decode cX11_lazy 13 = .ok (.getfield 53, 3) := by decide +kernel
theorem dX11_lazy_16 : decode cX11_lazy 16 = .ok (.aload_n 0, 1) := by decide +kernel
theorem dX11_lazy_17 : decode cX11_lazy 17 = .ok (.getfield 49, 3) := by decide +kernel
theorem dX11_lazy_20 : decode cX11_lazy 20 = .ok (.getfield 148, 3) := by decide +kernel
theorem dX11_lazy_23 : decode cX11_lazy 23 = .ok (.iload_n 1, 1) := by decide +kernel
theorem dX11_lazy_24 : decode cX11_lazy 24 = .ok (.invokevirtual 331, 3) := by decide +kernel
theorem dX11_lazy_27 : decode cX11_lazy 27 = .ok (.iconst 0, 1) := by decide +kernel
theorem dX11_lazy_28 : decode cX11_lazy 28 = .ok (.istore_n 2, 1) := by decide +kernel
theorem dX11_lazy_29 : decode cX11_lazy 29 = .ok (.iconst 0, 1) := by decide +kernel
theorem dX11_lazy_30 : decode cX11_lazy 30 = .ok (.istore_n 3, 1) := by decide +kernel
theorem dX11_lazy_31 : decode cX11_lazy 31 = .ok (.iload_n 3, 1) := by decide +kernel
theorem dX11_lazy_32 : decode cX11_lazy 32 = .ok (.aload_n 0, 1) := by decide +kernel
theorem dX11_lazy_33 : decode cX11_lazy 33 = .ok (.getfield 19, 3) := by decide +kernel
theorem dX11_lazy_36 : decode cX11_lazy 36 = .ok (.getfield 179, 3) := by decide +kernel
theorem dX11_lazy_39 : decode cX11_lazy 39 = .ok (.if_icmp .ge 27, 3) := by decide +kernel
theorem dX11_lazy_42 : decode cX11_lazy 42 = .ok (.aload_n 0, 1) := by decide +kernel
theorem dX11_lazy_43 : decode cX11_lazy 43 = .ok (.getfield 53, 3) := by decide +kernel
theorem dX11_lazy_46 : decode cX11_lazy 46 = .ok (.getfield 335, 3) := by decide +kernel
theorem dX11_lazy_49 : decode cX11_lazy 49 = .ok (.iload_n 3, 1) := by decide +kernel
theorem dX11_lazy_50 : decode cX11_lazy 50 = .ok (.iaload, 1) := by decide +kernel
theorem dX11_lazy_51 : decode cX11_lazy 51 = .ok (.ifCond .ne 9, 3) := by decide +kernel
theorem dX11_lazy_54 : decode cX11_lazy 54 = .ok (.iload_n 2, 1) := by decide +kernel
theorem dX11_lazy_55 : decode cX11_lazy 55 = .ok (.iconst 1, 1) := by decide +kernel
theorem dX11_lazy_56 : decode cX11_lazy 56 = .ok (.iload_n 3, 1) := by decide +kernel
theorem dX11_lazy_57 : decode cX11_lazy 57 = .ok (.ishl, 1) := by decide +kernel
theorem dX11_lazy_58 : decode cX11_lazy 58 = .ok (.ior, 1) := by decide +kernel
theorem dX11_lazy_59 : decode cX11_lazy 59 = .ok (.istore_n 2, 1) := by decide +kernel
theorem dX11_lazy_60 : decode cX11_lazy 60 = .ok (.iinc 3 1, 3) := by decide +kernel
theorem dX11_lazy_63 : decode cX11_lazy 63 = .ok (.goto (-32), 3) := by decide +kernel
theorem dX11_lazy_66 : decode cX11_lazy 66 = .ok (.aload_n 0, 1) := by decide +kernel
theorem dX11_lazy_67 : decode cX11_lazy 67 = .ok (.aload_n 0, 1) := by decide +kernel
theorem dX11_lazy_68 : decode cX11_lazy 68 = .ok (.getfield 19, 3) := by decide +kernel
theorem dX11_lazy_71 : decode cX11_lazy 71 = .ok (.invokevirtual 354, 3) := by decide +kernel
theorem dX11_lazy_74 : decode cX11_lazy 74 = .ok (.aload_n 0, 1) := by decide +kernel
theorem dX11_lazy_75 : decode cX11_lazy 75 = .ok (.getfield 53, 3) := by decide +kernel
theorem dX11_lazy_78 : decode cX11_lazy 78 = .ok (.getfield 357, 3) := by decide +kernel
theorem dX11_lazy_81 : decode cX11_lazy 81 = .ok (.iconst (-1), 1) := by decide +kernel
theorem dX11_lazy_82 : decode cX11_lazy 82 = .ok (.ixor, 1) := by decide +kernel
theorem dX11_lazy_83 : decode cX11_lazy 83 = .ok (.iand, 1) := by decide +kernel
theorem dX11_lazy_84 : decode cX11_lazy 84 = .ok (.invokevirtual 244, 3) := by decide +kernel
theorem dX11_lazy_87 : decode cX11_lazy 87 = .ok (.iload_n 2, 1) := by decide +kernel
theorem dX11_lazy_88 : decode cX11_lazy 88 = .ok (.ireturn, 1) := by decide +kernel
def WX11_lazy (E : ENV) (q0 : Nat) (q0_text : Nat) (q0_town : Nat) (q0_weather : Nat) (q0_rule : Nat) (q0_acts : Nat) (q0_real : Nat) (q0_trial : Nat) (q0_round : Nat) (q0_nights : Nat) (q0_before : Nat) (q0_history : Nat) (q0_kept : Nat) (q0_keptHouses : Nat) (q0_shortest : Nat) (q0_tracks : Nat) (q0_tally : Nat) (q0_told : Nat) (q0_real_state : Nat) (q0_real_owedBy : Nat) (q0_trial_state : Nat) (q0_trial_owedBy : Nat) (q0_trial_state_snow : Nat) (q0_trial_state_path : Nat) (q0_trial_state_debt : Nat) (q0_weather_inches : Nat) (q0_town_hold : Nat) (q0_town_below : Nat) (q0_town_hay : Nat) (q0_rule_code : Nat) (q0_rule_draft : Nat) (q0_rule_stack : Nat) (q0_rule_things : Nat) (q0_real_state_snow : Nat) (q0_real_state_path : Nat) (q0_real_state_debt : Nat) (i_toldCount : Int32) (i_real_owed : Int32) (i_real_slides : Int32) (i_real_struck : Int32) (i_real_slid : Int32) (i_trial_owed : Int32) (i_trial_slides : Int32) (i_trial_struck : Int32) (i_trial_slid : Int32) (i_trial_state_now : Int32) (i_weather_length : Int32) (i_weather_cycle : Int32) (i_town_houses : Int32) (i_rule_length : Int32) (i_rule_drafted : Int32) (i_real_state_now : Int32) (a_trial_state_snow : Nat → Int32) (a_trial_state_path : Nat → Int32) (a_trial_state_debt : Nat → Int32) (a_trial_owedBy : Nat → Int32) (a_weather_inches : Nat → Int32) (a_town_hold : Nat → Int32) (a_town_below : Nat → Int32) (a_rule_things : Nat → Int32) (a_rule_stack : Nat → Int32) (a_rule_code : Nat → Int32) (a_real_state_snow : Nat → Int32) (a_real_state_path : Nat → Int32) (a_real_state_debt : Nat → Int32) (a_told : Nat → Int32) : va_W := [(q0, .inr (11, [.ref q0_text, .ref q0_town, .ref q0_weather, .ref q0_rule, .ref q0_acts, .ref q0_real, .ref q0_trial, .ref q0_round, .ref q0_nights, .ref q0_before, .ref q0_history, .ref q0_kept, .ref q0_keptHouses, .ref q0_shortest, .ref q0_tracks, .ref q0_tally, .ref q0_told, .int i_toldCount])), (q0_real, .inr (9, [.ref q0_town, .ref q0_weather, .ref q0_rule, .ref q0_real_state, .ref q0_real_owedBy, .int i_real_owed, .int i_real_slides, .int i_real_struck, .int i_real_slid])), (q0_trial, .inr (9, [.ref q0_town, .ref q0_weather, .ref q0_rule, .ref q0_trial_state, .ref q0_trial_owedBy, .int i_trial_owed, .int i_trial_slides, .int i_trial_struck, .int i_trial_slid])), (q0_trial_state, .inr (5, [.ref q0_trial_state_snow, .ref q0_trial_state_path, .ref q0_trial_state_debt, .int i_trial_state_now])), (q0_weather, .inr (10, [.ref q0_weather_inches, .int i_weather_length, .int i_weather_cycle])), (q0_town, .inr (7, [.ref q0_town_hold, .ref q0_town_below, .ref q0_town_hay, .int i_town_houses])), (q0_rule, .inr (4, [.ref q0_rule_code, .ref q0_rule_draft, .ref q0_rule_stack, .ref q0_rule_things, .int i_rule_length, .int i_rule_drafted])), (q0_real_state, .inr (5, [.ref q0_real_state_snow, .ref q0_real_state_path, .ref q0_real_state_debt, .int i_real_state_now])), (q0_trial_state_snow, .inl (E.2.1, 14, .inl a_trial_state_snow)), (q0_trial_state_path, .inl (E.2.1, 7, .inl a_trial_state_path)), (q0_trial_state_debt, .inl (E.2.1, 49, .inl a_trial_state_debt)), (q0_trial_owedBy, .inl (E.2.1, 7, .inl a_trial_owedBy)), (q0_weather_inches, .inl (E.2.1, 40, .inl a_weather_inches)), (q0_town_hold, .inl (E.2.1, 7, .inl a_town_hold)), (q0_town_below, .inl (E.2.1, 14, .inl a_town_below)), (q0_rule_things, .inl (E.2.1, 8, .inl a_rule_things)), (q0_rule_stack, .inl (E.2.1, 40, .inl a_rule_stack)), (q0_rule_code, .inl (E.2.1, 40, .inl a_rule_code)), (q0_real_state_snow, .inl (E.2.1, 14, .inl a_real_state_snow)), (q0_real_state_path, .inl (E.2.1, 7, .inl a_real_state_path)), (q0_real_state_debt, .inl (E.2.1, 49, .inl a_real_state_debt)), (q0_told, .inl (E.2.1, 8, .inl a_told))]
set_option maxHeartbeats 4000000 in
set_option maxRecDepth 20000 in
theorem kX11_lazy (l : Launch) (E : ENV) (q0 : Nat) (q0_text : Nat) (q0_town : Nat) (q0_weather : Nat) (q0_rule : Nat) (q0_acts : Nat) (q0_real : Nat) (q0_trial : Nat) (q0_round : Nat) (q0_nights : Nat) (q0_before : Nat) (q0_history : Nat) (q0_kept : Nat) (q0_keptHouses : Nat) (q0_shortest : Nat) (q0_tracks : Nat) (q0_tally : Nat) (q0_told : Nat) (q0_real_state : Nat) (q0_real_owedBy : Nat) (q0_trial_state : Nat) (q0_trial_owedBy : Nat) (q0_trial_state_snow : Nat) (q0_trial_state_path : Nat) (q0_trial_state_debt : Nat) (q0_weather_inches : Nat) (q0_town_hold : Nat) (q0_town_below : Nat) (q0_town_hay : Nat) (q0_rule_code : Nat) (q0_rule_draft : Nat) (q0_rule_stack : Nat) (q0_rule_things : Nat) (q0_real_state_snow : Nat) (q0_real_state_path : Nat) (q0_real_state_debt : Nat) (i_toldCount : Int32) (i_real_owed : Int32) (i_real_slides : Int32) (i_real_struck : Int32) (i_real_slid : Int32) (i_trial_owed : Int32) (i_trial_slides : Int32) (i_trial_struck : Int32) (i_trial_slid : Int32) (i_trial_state_now : Int32) (i_weather_length : Int32) (i_weather_cycle : Int32) (i_town_houses : Int32) (i_rule_length : Int32) (i_rule_drafted : Int32) (i_real_state_now : Int32) (a_trial_state_snow : Nat → Int32) (a_trial_state_path : Nat → Int32) (a_trial_state_debt : Nat → Int32) (a_trial_owedBy : Nat → Int32) (a_weather_inches : Nat → Int32) (a_town_hold : Nat → Int32) (a_town_below : Nat → Int32) (a_rule_things : Nat → Int32) (a_rule_stack : Nat → Int32) (a_rule_code : Nat → Int32) (a_real_state_snow : Nat → Int32) (a_real_state_path : Nat → Int32) (a_real_state_debt : Nat → Int32) (a_told : Nat → Int32) (p1 : Int32) (r9 : Int32) (i_toldCount9 : Int32) (i_trial_owed9 : Int32) (i_trial_slides9 : Int32) (i_trial_struck9 : Int32) (i_trial_slid9 : Int32) (i_trial_state_now9 : Int32) (a_trial_state_snow9 : Nat → Int32) (a_trial_state_path9 : Nat → Int32) (a_trial_state_debt9 : Nat → Int32) (a_trial_owedBy9 : Nat → Int32) (a_rule_things9 : Nat → Int32) (a_rule_stack9 : Nat → Int32) (a_told9 : Nat → Int32) (hf : fX11_lazy i_toldCount i_trial_owed i_trial_slides i_trial_struck i_trial_slid i_trial_state_now i_weather_cycle i_town_houses i_rule_length i_real_state_now a_trial_state_snow a_trial_state_path a_trial_state_debt a_trial_owedBy a_weather_inches a_town_hold a_town_below a_rule_things a_rule_stack a_rule_code a_real_state_snow a_real_state_path a_real_state_debt a_told p1 = some (r9, i_toldCount9, i_trial_owed9, i_trial_slides9, i_trial_struck9, i_trial_slid9, i_trial_state_now9, a_trial_state_snow9, a_trial_state_path9, a_trial_state_debt9, a_trial_owedBy9, a_rule_things9, a_rule_stack9, a_told9)) : CI l E yX11_lazy cX11_lazy 4 (some .int) 5 [.ref q0, .int p1] (WX11_lazy E q0 q0_text q0_town q0_weather q0_rule q0_acts q0_real q0_trial q0_round q0_nights q0_before q0_history q0_kept q0_keptHouses q0_shortest q0_tracks q0_tally q0_told q0_real_state q0_real_owedBy q0_trial_state q0_trial_owedBy q0_trial_state_snow q0_trial_state_path q0_trial_state_debt q0_weather_inches q0_town_hold q0_town_below q0_town_hay q0_rule_code q0_rule_draft q0_rule_stack q0_rule_things q0_real_state_snow q0_real_state_path q0_real_state_debt i_toldCount i_real_owed i_real_slides i_real_struck i_real_slid i_trial_owed i_trial_slides i_trial_struck i_trial_slid i_trial_state_now i_weather_length i_weather_cycle i_town_houses i_rule_length i_rule_drafted i_real_state_now a_trial_state_snow a_trial_state_path a_trial_state_debt a_trial_owedBy a_weather_inches a_town_hold a_town_below a_rule_things a_rule_stack a_rule_code a_real_state_snow a_real_state_path a_real_state_debt a_told) (WX11_lazy E q0 q0_text q0_town q0_weather q0_rule q0_acts q0_real q0_trial q0_round q0_nights q0_before q0_history q0_kept q0_keptHouses q0_shortest q0_tracks q0_tally q0_told q0_real_state q0_real_owedBy q0_trial_state q0_trial_owedBy q0_trial_state_snow q0_trial_state_path q0_trial_state_debt q0_weather_inches q0_town_hold q0_town_below q0_town_hay q0_rule_code q0_rule_draft q0_rule_stack q0_rule_things q0_real_state_snow q0_real_state_path q0_real_state_debt i_toldCount9 i_real_owed i_real_slides i_real_struck i_real_slid i_trial_owed9 i_trial_slides9 i_trial_struck9 i_trial_slid9 i_trial_state_now9 i_weather_length i_weather_cycle i_town_houses i_rule_length i_rule_drafted i_real_state_now a_trial_state_snow9 a_trial_state_path9 a_trial_state_debt9 a_trial_owedBy9 a_weather_inches a_town_hold a_town_below a_rule_things9 a_rule_stack9 a_rule_code a_real_state_snow a_real_state_path a_real_state_debt a_told9) r9 := by
  refine begI (by decide +kernel) (Nat.le_of_ble_eq_true rfl) ?_
  intro p e s m args below meth c A Q C hA hret
  have hx := C.1
  have hb := C.2.1
  have L31 : ∀ (i_toldCount : Int32) (i_trial_owed : Int32) (i_trial_slides : Int32) (i_trial_struck : Int32) (i_trial_slid : Int32) (i_trial_state_now : Int32) (a_trial_state_snow : Nat → Int32) (a_trial_state_path : Nat → Int32) (a_trial_state_debt : Nat → Int32) (a_trial_owedBy : Nat → Int32) (a_rule_things : Nat → Int32) (a_rule_stack : Nat → Int32) (a_told : Nat → Int32), ∀ (n : Nat) (v2 : Int32) (v3 : Int32) (o : Int32), fX11_lazy_L31 i_town_houses a_trial_owedBy n v2 v3 = some o → (GO p l e 5 s m args below meth c Q E A 4 66 [] [(0, .ref q0), (2, .int o)] (WX11_lazy E q0 q0_text q0_town q0_weather q0_rule q0_acts q0_real q0_trial q0_round q0_nights q0_before q0_history q0_kept q0_keptHouses q0_shortest q0_tracks q0_tally q0_told q0_real_state q0_real_owedBy q0_trial_state q0_trial_owedBy q0_trial_state_snow q0_trial_state_path q0_trial_state_debt q0_weather_inches q0_town_hold q0_town_below q0_town_hay q0_rule_code q0_rule_draft q0_rule_stack q0_rule_things q0_real_state_snow q0_real_state_path q0_real_state_debt i_toldCount i_real_owed i_real_slides i_real_struck i_real_slid i_trial_owed i_trial_slides i_trial_struck i_trial_slid i_trial_state_now i_weather_length i_weather_cycle i_town_houses i_rule_length i_rule_drafted i_real_state_now a_trial_state_snow a_trial_state_path a_trial_state_debt a_trial_owedBy a_weather_inches a_town_hold a_town_below a_rule_things a_rule_stack a_rule_code a_real_state_snow a_real_state_path a_real_state_debt a_told)) → GO p l e 5 s m args below meth c Q E A 4 31 [] [(0, .ref q0), (2, .int v2), (3, .int v3)] (WX11_lazy E q0 q0_text q0_town q0_weather q0_rule q0_acts q0_real q0_trial q0_round q0_nights q0_before q0_history q0_kept q0_keptHouses q0_shortest q0_tracks q0_tally q0_told q0_real_state q0_real_owedBy q0_trial_state q0_trial_owedBy q0_trial_state_snow q0_trial_state_path q0_trial_state_debt q0_weather_inches q0_town_hold q0_town_below q0_town_hay q0_rule_code q0_rule_draft q0_rule_stack q0_rule_things q0_real_state_snow q0_real_state_path q0_real_state_debt i_toldCount i_real_owed i_real_slides i_real_struck i_real_slid i_trial_owed i_trial_slides i_trial_struck i_trial_slid i_trial_state_now i_weather_length i_weather_cycle i_town_houses i_rule_length i_rule_drafted i_real_state_now a_trial_state_snow a_trial_state_path a_trial_state_debt a_trial_owedBy a_weather_inches a_town_hold a_town_below a_rule_things a_rule_stack a_rule_code a_real_state_snow a_real_state_path a_real_state_debt a_told) := by
    intro i_toldCount i_trial_owed i_trial_slides i_trial_struck i_trial_slid i_trial_state_now a_trial_state_snow a_trial_state_path a_trial_state_debt a_trial_owedBy a_rule_things a_rule_stack a_told
    intro n
    induction n with
    | zero =>
      intro v2 v3 o hf
      have hf : none = some o := hf
      cases hf
    | succ n ih =>
      intro v2 v3 o hf hE
      intro H locs ls hl hP hD hS
      rw [fX11_lazy_L31] at hf
      refine lv_iload_n hx hb dX11_lazy_31 rfl (lv_at hl 2 rfl) ?_
      refine lv_aload_n hx hb dX11_lazy_32 rfl (lv_at hl 0 rfl) ?_
      refine gf_RX11_19 C hP 0 rfl rfl dX11_lazy_33 ?_
      refine gf_RX11_179 C hP 5 rfl rfl dX11_lazy_36 ?_
      refine lv_icmp_ge (tgt := 66) hx hb dX11_lazy_39 (by decide) (fun c6 => ?_) (fun c6 => ?_)
      · rw [if_pos c6] at hf
        have hf := Option.some.inj hf
        subst hf
        exact hE _ _ _ (lv_sub hl [0, 1] rfl) hP hD hS
      · rw [if_neg c6] at hf
        refine lv_aload_n hx hb dX11_lazy_42 rfl (lv_at hl 0 rfl) ?_
        refine gf_RX11_53 C hP 0 rfl rfl dX11_lazy_43 ?_
        refine gf_RX11_335 C hP 2 rfl rfl dX11_lazy_46 ?_
        refine lv_iload_n hx hb dX11_lazy_49 rfl (lv_at hl 2 rfl) ?_
        obtain ⟨g7, hf⟩ := gd_some hf
        refine va_iald hx hb C.2.2.2.2.2.1 hP 11 0 rfl rfl (vin_in g7) dX11_lazy_50 ?_
        refine lv_if_ne (tgt := 60) hx hb dX11_lazy_51 (by decide) (fun c8 => ?_) (fun c8 => ?_)
        · rw [if_neg c8] at hf
          refine lv_iinc (v := (v3 + 1)) (lv' := [(3, .int ((v3 + 1))), (0, .ref q0), (2, .int v2)]) hx hb dX11_lazy_60 hl (k := 2) rfl rfl (by decide) rfl (fun ls hl => ?_)
          refine lv_goto (tgt := 31) hx hb dX11_lazy_63 (by decide) ?_
          exact ih v2 ((v3 + 1)) _ hf hE _ _ _ (lv_sub hl [1, 2, 0] rfl) hP hD hS
        · rw [if_pos c8] at hf
          refine lv_iload_n hx hb dX11_lazy_54 rfl (lv_at hl 1 rfl) ?_
          refine lv_iconst (v := 1) hx hb dX11_lazy_55 (by decide) ?_
          refine lv_iload_n hx hb dX11_lazy_56 rfl (lv_at hl 2 rfl) ?_
          refine lv_ishl hx hb dX11_lazy_57 ?_
          refine lv_ior hx hb dX11_lazy_58 ?_
          refine lv_istore_n (lv' := [(2, .int ((v2 ||| ((1 <<< (v3 &&& 31)))))), (0, .ref q0), (3, .int v3)]) hx hb dX11_lazy_59 rfl hl (by decide) rfl (fun ls hl => ?_)
          refine lv_iinc (v := (v3 + 1)) (lv' := [(3, .int ((v3 + 1))), (2, .int ((v2 ||| ((1 <<< (v3 &&& 31)))))), (0, .ref q0)]) hx hb dX11_lazy_60 hl (k := 2) rfl rfl (by decide) rfl (fun ls hl => ?_)
          refine lv_goto (tgt := 31) hx hb dX11_lazy_63 (by decide) ?_
          exact ih ((v2 ||| ((1 <<< (v3 &&& 31))))) ((v3 + 1)) _ hf hE _ _ _ (lv_sub hl [2, 1, 0] rfl) hP hD hS
  intro H locs ls hl hP hD hS
  have hl : lv_has ls 4 [(0, .ref q0), (1, .int p1)] := hl
  unfold fX11_lazy at hf
  refine lv_iload_n hx hb dX11_lazy_0 rfl (lv_at hl 1 rfl) ?_
  refine lv_iconst (v := 0) hx hb dX11_lazy_1 (by decide) ?_
  refine lv_bipush (v := 60) hx hb dX11_lazy_2 (by decide) ?_
  obtain ⟨o1, hg2, hf⟩ := bd_some hf
  refine k_SI (As := [.int p1, .int 0, .int 60]) C K_RX11_128 (Nat.le_of_ble_eq_true rfl) (Nat.le_of_ble_eq_true rfl) (kX11_isWithin l E p1 0 60 o1 hg2) [] rfl rfl rfl  hP hD hS hA hl.1 (Nat.le_of_ble_eq_true rfl) rfl dX11_lazy_4 (fun H locs hP hD hS => ?_)
  have hP : va_P E.1 classes (WX11_lazy E q0 q0_text q0_town q0_weather q0_rule q0_acts q0_real q0_trial q0_round q0_nights q0_before q0_history q0_kept q0_keptHouses q0_shortest q0_tracks q0_tally q0_told q0_real_state q0_real_owedBy q0_trial_state q0_trial_owedBy q0_trial_state_snow q0_trial_state_path q0_trial_state_debt q0_weather_inches q0_town_hold q0_town_below q0_town_hay q0_rule_code q0_rule_draft q0_rule_stack q0_rule_things q0_real_state_snow q0_real_state_path q0_real_state_debt i_toldCount i_real_owed i_real_slides i_real_struck i_real_slid i_trial_owed i_trial_slides i_trial_struck i_trial_slid i_trial_state_now i_weather_length i_weather_cycle i_town_houses i_rule_length i_rule_drafted i_real_state_now a_trial_state_snow a_trial_state_path a_trial_state_debt a_trial_owedBy a_weather_inches a_town_hold a_town_below a_rule_things a_rule_stack a_rule_code a_real_state_snow a_real_state_path a_real_state_debt a_told) H := hP
  have hD : va_D A (WX11_lazy E q0 q0_text q0_town q0_weather q0_rule q0_acts q0_real q0_trial q0_round q0_nights q0_before q0_history q0_kept q0_keptHouses q0_shortest q0_tracks q0_tally q0_told q0_real_state q0_real_owedBy q0_trial_state q0_trial_owedBy q0_trial_state_snow q0_trial_state_path q0_trial_state_debt q0_weather_inches q0_town_hold q0_town_below q0_town_hay q0_rule_code q0_rule_draft q0_rule_stack q0_rule_things q0_real_state_snow q0_real_state_path q0_real_state_debt i_toldCount i_real_owed i_real_slides i_real_struck i_real_slid i_trial_owed i_trial_slides i_trial_struck i_trial_slid i_trial_state_now i_weather_length i_weather_cycle i_town_houses i_rule_length i_rule_drafted i_real_state_now a_trial_state_snow a_trial_state_path a_trial_state_debt a_trial_owedBy a_weather_inches a_town_hold a_town_below a_rule_things a_rule_stack a_rule_code a_real_state_snow a_real_state_path a_real_state_debt a_told) := hD
  refine lv_if_ne (tgt := 12) hx hb dX11_lazy_7 (by decide) (fun c3 => ?_) (fun c3 => ?_)
  · rw [if_neg c3] at hf
    refine lv_aload_n hx hb dX11_lazy_12 rfl (lv_at hl 0 rfl) ?_
    refine gf_RX11_53 C hP 0 rfl rfl dX11_lazy_13 ?_
    refine lv_aload_n hx hb dX11_lazy_16 rfl (lv_at hl 0 rfl) ?_
    refine gf_RX11_49 C hP 0 rfl rfl dX11_lazy_17 ?_
    refine gf_RX11_148 C hP 1 rfl rfl dX11_lazy_20 ?_
    refine lv_iload_n hx hb dX11_lazy_23 rfl (lv_at hl 1 rfl) ?_
    obtain ⟨o4, hg5, hf⟩ := bd_some hf
    refine k_VV (As := [.ref q0_real_state, .int p1]) C K_RX11_331 (Nat.le_of_ble_eq_true rfl) (Nat.le_of_ble_eq_true rfl) (kX9_walkFrom l E q0_trial q0_town q0_weather q0_rule q0_trial_state q0_trial_owedBy q0_trial_state_snow q0_trial_state_path q0_trial_state_debt q0_weather_inches q0_town_hold q0_town_below q0_town_hay q0_rule_code q0_rule_draft q0_rule_stack q0_rule_things q0_real_state q0_real_state_snow q0_real_state_path q0_real_state_debt i_trial_owed i_trial_slides i_trial_struck i_trial_slid i_trial_state_now a_trial_state_snow a_trial_state_path a_trial_state_debt a_trial_owedBy i_weather_length i_weather_cycle i_town_houses i_rule_length i_rule_drafted a_weather_inches a_town_hold a_town_below a_rule_things a_rule_stack a_rule_code i_real_state_now a_real_state_snow a_real_state_path a_real_state_debt p1 o4.1 o4.2.1 o4.2.2.1 o4.2.2.2.1 o4.2.2.2.2.1 o4.2.2.2.2.2.1 o4.2.2.2.2.2.2.1 o4.2.2.2.2.2.2.2.1 o4.2.2.2.2.2.2.2.2.1 o4.2.2.2.2.2.2.2.2.2.1 o4.2.2.2.2.2.2.2.2.2.2 hg5) [2, 3, 8, 9, 10, 11, 4, 5, 6, 12, 13, 14, 15, 16, 17, 7, 18, 19, 20] rfl rfl rfl (ci := 9) rfl rfl (q0 := 0) rfl hP hD hS hA hl.1 (Nat.le_of_ble_eq_true rfl) rfl dX11_lazy_24 (fun H locs hP hD hS => ?_)
    have hP : va_P E.1 classes (WX11_lazy E q0 q0_text q0_town q0_weather q0_rule q0_acts q0_real q0_trial q0_round q0_nights q0_before q0_history q0_kept q0_keptHouses q0_shortest q0_tracks q0_tally q0_told q0_real_state q0_real_owedBy q0_trial_state q0_trial_owedBy q0_trial_state_snow q0_trial_state_path q0_trial_state_debt q0_weather_inches q0_town_hold q0_town_below q0_town_hay q0_rule_code q0_rule_draft q0_rule_stack q0_rule_things q0_real_state_snow q0_real_state_path q0_real_state_debt i_toldCount i_real_owed i_real_slides i_real_struck i_real_slid o4.1 o4.2.1 o4.2.2.1 o4.2.2.2.1 o4.2.2.2.2.1 i_weather_length i_weather_cycle i_town_houses i_rule_length i_rule_drafted i_real_state_now o4.2.2.2.2.2.1 o4.2.2.2.2.2.2.1 o4.2.2.2.2.2.2.2.1 o4.2.2.2.2.2.2.2.2.1 a_weather_inches a_town_hold a_town_below o4.2.2.2.2.2.2.2.2.2.1 o4.2.2.2.2.2.2.2.2.2.2 a_rule_code a_real_state_snow a_real_state_path a_real_state_debt a_told) H := hP
    have hD : va_D A (WX11_lazy E q0 q0_text q0_town q0_weather q0_rule q0_acts q0_real q0_trial q0_round q0_nights q0_before q0_history q0_kept q0_keptHouses q0_shortest q0_tracks q0_tally q0_told q0_real_state q0_real_owedBy q0_trial_state q0_trial_owedBy q0_trial_state_snow q0_trial_state_path q0_trial_state_debt q0_weather_inches q0_town_hold q0_town_below q0_town_hay q0_rule_code q0_rule_draft q0_rule_stack q0_rule_things q0_real_state_snow q0_real_state_path q0_real_state_debt i_toldCount i_real_owed i_real_slides i_real_struck i_real_slid o4.1 o4.2.1 o4.2.2.1 o4.2.2.2.1 o4.2.2.2.2.1 i_weather_length i_weather_cycle i_town_houses i_rule_length i_rule_drafted i_real_state_now o4.2.2.2.2.2.1 o4.2.2.2.2.2.2.1 o4.2.2.2.2.2.2.2.1 o4.2.2.2.2.2.2.2.2.1 a_weather_inches a_town_hold a_town_below o4.2.2.2.2.2.2.2.2.2.1 o4.2.2.2.2.2.2.2.2.2.2 a_rule_code a_real_state_snow a_real_state_path a_real_state_debt a_told) := hD
    refine lv_iconst (v := 0) hx hb dX11_lazy_27 (by decide) ?_
    refine lv_istore_n (lv' := [(2, .int 0), (0, .ref q0), (1, .int p1)]) hx hb dX11_lazy_28 rfl hl (by decide) rfl (fun ls hl => ?_)
    refine lv_iconst (v := 0) hx hb dX11_lazy_29 (by decide) ?_
    refine lv_istore_n (lv' := [(3, .int 0), (2, .int 0), (0, .ref q0), (1, .int p1)]) hx hb dX11_lazy_30 rfl hl (by decide) rfl (fun ls hl => ?_)
    obtain ⟨o9, hg10, hf⟩ := bd_some hf
    refine L31 i_toldCount o4.1 o4.2.1 o4.2.2.1 o4.2.2.2.1 o4.2.2.2.2.1 o4.2.2.2.2.2.1 o4.2.2.2.2.2.2.1 o4.2.2.2.2.2.2.2.1 o4.2.2.2.2.2.2.2.2.1 o4.2.2.2.2.2.2.2.2.2.1 o4.2.2.2.2.2.2.2.2.2.2 a_told FU 0 0 o9 hg10 ?_ _ _ _ (lv_sub hl [2, 1, 0] rfl) hP hD hS
    intro H locs ls hl hP hD hS
    refine lv_aload_n hx hb dX11_lazy_66 rfl (lv_at hl 0 rfl) ?_
    refine lv_aload_n hx hb dX11_lazy_67 rfl (lv_at hl 0 rfl) ?_
    refine gf_RX11_19 C hP 0 rfl rfl dX11_lazy_68 ?_
    obtain ⟨o11, hg12, hf⟩ := bd_some hf
    refine k_VI (As := []) C K_RX11_354 (Nat.le_of_ble_eq_true rfl) (Nat.le_of_ble_eq_true rfl) (kX7_allBits l E q0_town q0_town_hold q0_town_below q0_town_hay i_town_houses o11 hg12) [5] rfl rfl rfl (ci := 7) rfl rfl (q0 := 0) rfl hP hD hS hA hl.1 (Nat.le_of_ble_eq_true rfl) rfl dX11_lazy_71 (fun H locs hP hD hS => ?_)
    have hP : va_P E.1 classes (WX11_lazy E q0 q0_text q0_town q0_weather q0_rule q0_acts q0_real q0_trial q0_round q0_nights q0_before q0_history q0_kept q0_keptHouses q0_shortest q0_tracks q0_tally q0_told q0_real_state q0_real_owedBy q0_trial_state q0_trial_owedBy q0_trial_state_snow q0_trial_state_path q0_trial_state_debt q0_weather_inches q0_town_hold q0_town_below q0_town_hay q0_rule_code q0_rule_draft q0_rule_stack q0_rule_things q0_real_state_snow q0_real_state_path q0_real_state_debt i_toldCount i_real_owed i_real_slides i_real_struck i_real_slid o4.1 o4.2.1 o4.2.2.1 o4.2.2.2.1 o4.2.2.2.2.1 i_weather_length i_weather_cycle i_town_houses i_rule_length i_rule_drafted i_real_state_now o4.2.2.2.2.2.1 o4.2.2.2.2.2.2.1 o4.2.2.2.2.2.2.2.1 o4.2.2.2.2.2.2.2.2.1 a_weather_inches a_town_hold a_town_below o4.2.2.2.2.2.2.2.2.2.1 o4.2.2.2.2.2.2.2.2.2.2 a_rule_code a_real_state_snow a_real_state_path a_real_state_debt a_told) H := hP
    have hD : va_D A (WX11_lazy E q0 q0_text q0_town q0_weather q0_rule q0_acts q0_real q0_trial q0_round q0_nights q0_before q0_history q0_kept q0_keptHouses q0_shortest q0_tracks q0_tally q0_told q0_real_state q0_real_owedBy q0_trial_state q0_trial_owedBy q0_trial_state_snow q0_trial_state_path q0_trial_state_debt q0_weather_inches q0_town_hold q0_town_below q0_town_hay q0_rule_code q0_rule_draft q0_rule_stack q0_rule_things q0_real_state_snow q0_real_state_path q0_real_state_debt i_toldCount i_real_owed i_real_slides i_real_struck i_real_slid o4.1 o4.2.1 o4.2.2.1 o4.2.2.2.1 o4.2.2.2.2.1 i_weather_length i_weather_cycle i_town_houses i_rule_length i_rule_drafted i_real_state_now o4.2.2.2.2.2.1 o4.2.2.2.2.2.2.1 o4.2.2.2.2.2.2.2.1 o4.2.2.2.2.2.2.2.2.1 a_weather_inches a_town_hold a_town_below o4.2.2.2.2.2.2.2.2.2.1 o4.2.2.2.2.2.2.2.2.2.2 a_rule_code a_real_state_snow a_real_state_path a_real_state_debt a_told) := hD
    refine lv_aload_n hx hb dX11_lazy_74 rfl (lv_at hl 0 rfl) ?_
    refine gf_RX11_53 C hP 0 rfl rfl dX11_lazy_75 ?_
    refine gf_RX11_357 C hP 2 rfl rfl dX11_lazy_78 ?_
    refine lv_iconst (v := (-1)) hx hb dX11_lazy_81 (by decide) ?_
    refine lv_ixor hx hb dX11_lazy_82 ?_
    refine lv_iand hx hb dX11_lazy_83 ?_
    obtain ⟨o13, hg14, hf⟩ := bd_some hf
    refine k_VV (As := [.int ((o11 &&& ((o4.2.2.1 ^^^ ((-1))))))]) C K_RX11_244 (Nat.le_of_ble_eq_true rfl) (Nat.le_of_ble_eq_true rfl) (kX11_tell l E q0 q0_text q0_town q0_weather q0_rule q0_acts q0_real q0_trial q0_round q0_nights q0_before q0_history q0_kept q0_keptHouses q0_shortest q0_tracks q0_tally q0_told i_toldCount a_told ((o11 &&& ((o4.2.2.1 ^^^ ((-1)))))) o13.1 o13.2 hg14) [0, 21] rfl rfl rfl (ci := 11) rfl rfl (q0 := 0) rfl hP hD hS hA hl.1 (Nat.le_of_ble_eq_true rfl) rfl dX11_lazy_84 (fun H locs hP hD hS => ?_)
    have hP : va_P E.1 classes (WX11_lazy E q0 q0_text q0_town q0_weather q0_rule q0_acts q0_real q0_trial q0_round q0_nights q0_before q0_history q0_kept q0_keptHouses q0_shortest q0_tracks q0_tally q0_told q0_real_state q0_real_owedBy q0_trial_state q0_trial_owedBy q0_trial_state_snow q0_trial_state_path q0_trial_state_debt q0_weather_inches q0_town_hold q0_town_below q0_town_hay q0_rule_code q0_rule_draft q0_rule_stack q0_rule_things q0_real_state_snow q0_real_state_path q0_real_state_debt o13.1 i_real_owed i_real_slides i_real_struck i_real_slid o4.1 o4.2.1 o4.2.2.1 o4.2.2.2.1 o4.2.2.2.2.1 i_weather_length i_weather_cycle i_town_houses i_rule_length i_rule_drafted i_real_state_now o4.2.2.2.2.2.1 o4.2.2.2.2.2.2.1 o4.2.2.2.2.2.2.2.1 o4.2.2.2.2.2.2.2.2.1 a_weather_inches a_town_hold a_town_below o4.2.2.2.2.2.2.2.2.2.1 o4.2.2.2.2.2.2.2.2.2.2 a_rule_code a_real_state_snow a_real_state_path a_real_state_debt o13.2) H := hP
    have hD : va_D A (WX11_lazy E q0 q0_text q0_town q0_weather q0_rule q0_acts q0_real q0_trial q0_round q0_nights q0_before q0_history q0_kept q0_keptHouses q0_shortest q0_tracks q0_tally q0_told q0_real_state q0_real_owedBy q0_trial_state q0_trial_owedBy q0_trial_state_snow q0_trial_state_path q0_trial_state_debt q0_weather_inches q0_town_hold q0_town_below q0_town_hay q0_rule_code q0_rule_draft q0_rule_stack q0_rule_things q0_real_state_snow q0_real_state_path q0_real_state_debt o13.1 i_real_owed i_real_slides i_real_struck i_real_slid o4.1 o4.2.1 o4.2.2.1 o4.2.2.2.1 o4.2.2.2.2.1 i_weather_length i_weather_cycle i_town_houses i_rule_length i_rule_drafted i_real_state_now o4.2.2.2.2.2.1 o4.2.2.2.2.2.2.1 o4.2.2.2.2.2.2.2.1 o4.2.2.2.2.2.2.2.2.1 a_weather_inches a_town_hold a_town_below o4.2.2.2.2.2.2.2.2.2.1 o4.2.2.2.2.2.2.2.2.2.2 a_rule_code a_real_state_snow a_real_state_path a_real_state_debt o13.2) := hD
    refine lv_iload_n hx hb dX11_lazy_87 rfl (lv_at hl 1 rfl) ?_
    have hj0 := Option.some.inj hf
    obtain ⟨ha0, hj1⟩ := Prod.mk.inj hj0
    obtain ⟨ha1, hj2⟩ := Prod.mk.inj hj1
    obtain ⟨ha2, hj3⟩ := Prod.mk.inj hj2
    obtain ⟨ha3, hj4⟩ := Prod.mk.inj hj3
    obtain ⟨ha4, hj5⟩ := Prod.mk.inj hj4
    obtain ⟨ha5, hj6⟩ := Prod.mk.inj hj5
    obtain ⟨ha6, hj7⟩ := Prod.mk.inj hj6
    obtain ⟨ha7, hj8⟩ := Prod.mk.inj hj7
    obtain ⟨ha8, hj9⟩ := Prod.mk.inj hj8
    obtain ⟨ha9, hj10⟩ := Prod.mk.inj hj9
    obtain ⟨ha10, hj11⟩ := Prod.mk.inj hj10
    obtain ⟨ha11, hj12⟩ := Prod.mk.inj hj11
    obtain ⟨ha12, hj13⟩ := Prod.mk.inj hj12
    subst ha0
    subst ha1
    subst ha2
    subst ha3
    subst ha4
    subst ha5
    subst ha6
    subst ha7
    subst ha8
    subst ha9
    subst ha10
    subst ha11
    subst ha12
    subst hj13
    exact hret _ _ _ _ dX11_lazy_88 rfl hP hD hS
  · rw [if_pos c3] at hf
    refine lv_iconst (v := (-1)) hx hb dX11_lazy_10 (by decide) ?_
    have hj0 := Option.some.inj hf
    obtain ⟨ha0, hj1⟩ := Prod.mk.inj hj0
    obtain ⟨ha1, hj2⟩ := Prod.mk.inj hj1
    obtain ⟨ha2, hj3⟩ := Prod.mk.inj hj2
    obtain ⟨ha3, hj4⟩ := Prod.mk.inj hj3
    obtain ⟨ha4, hj5⟩ := Prod.mk.inj hj4
    obtain ⟨ha5, hj6⟩ := Prod.mk.inj hj5
    obtain ⟨ha6, hj7⟩ := Prod.mk.inj hj6
    obtain ⟨ha7, hj8⟩ := Prod.mk.inj hj7
    obtain ⟨ha8, hj9⟩ := Prod.mk.inj hj8
    obtain ⟨ha9, hj10⟩ := Prod.mk.inj hj9
    obtain ⟨ha10, hj11⟩ := Prod.mk.inj hj10
    obtain ⟨ha11, hj12⟩ := Prod.mk.inj hj11
    obtain ⟨ha12, hj13⟩ := Prod.mk.inj hj12
    subst ha0
    subst ha1
    subst ha2
    subst ha3
    subst ha4
    subst ha5
    subst ha6
    subst ha7
    subst ha8
    subst ha9
    subst ha10
    subst ha11
    subst ha12
    subst hj13
    exact hret _ _ _ _ dX11_lazy_11 rfl hP hD hS
theorem dX11_staysWithin_0 : decode cX11_staysWithin 0 = .ok (.aload_n 0, 1) := by decide +kernel
theorem dX11_staysWithin_1 : decode cX11_staysWithin 1 = .ok (.getfield 53, 3) := by decide +kernel
theorem dX11_staysWithin_4 : decode cX11_staysWithin 4 = .ok (.aload_n 0, 1) := by decide +kernel
theorem dX11_staysWithin_5 : decode cX11_staysWithin 5 = .ok (.getfield 49, 3) := by decide +kernel
theorem dX11_staysWithin_8 : decode cX11_staysWithin 8 = .ok (.getfield 148, 3) := by decide +kernel
theorem dX11_staysWithin_11 : decode cX11_staysWithin 11 = .ok (.invokevirtual 337, 3) := by decide +kernel
theorem dX11_staysWithin_14 : decode cX11_staysWithin 14 = .ok (.aload_n 0, 1) := by decide +kernel
theorem dX11_staysWithin_15 : decode cX11_staysWithin 15 = .ok (.getfield 53, 3) := by decide +kernel
theorem dX11_staysWithin_18 : decode cX11_staysWithin 18 = .ok (.getfield 148, 3) := by decide +kernel
theorem dX11_staysWithin_21 : decode cX11_staysWithin 21 = .ok (.getfield 154, 3) := by decide +kernel
theorem dX11_staysWithin_24 : decode cX11_staysWithin 24 = .ok (.iload_n 1, 1) := by decide +kernel
theorem dX11_staysWithin_25 : decode cX11_staysWithin 25 = .ok (.dup2, 1) := by decide +kernel
theorem dX11_staysWithin_26 : decode cX11_staysWithin 26 = .ok (.iaload, 1) := by decide +kernel
theorem dX11_staysWithin_27 : decode cX11_staysWithin 27 = .ok (.iload_n 2, 1) := by decide +kernel
theorem dX11_staysWithin_28 : decode cX11_staysWithin 28 = .ok (.isub, 1) := by decide +kernel
theorem dX11_staysWithin_29 : decode cX11_staysWithin 29 = .ok (.iastore, 1) := by decide +kernel
theorem dX11_staysWithin_30 : decode cX11_staysWithin 30 = .ok (.iconst 0, 1) := by decide +kernel
theorem dX11_staysWithin_31 : decode cX11_staysWithin 31 = .ok (.istore 5, 2) := by decide +kernel
theorem dX11_staysWithin_33 : decode cX11_staysWithin 33 = .ok (.iload 5, 2) := by decide +kernel
theorem dX11_staysWithin_35 : decode cX11_staysWithin 35 = .ok (.iload 4, 2) := by decide +kernel
theorem dX11_staysWithin_37 : decode cX11_staysWithin 37 = .ok (.if_icmp .ge 32, 3) := by decide +kernel
theorem dX11_staysWithin_40 : decode cX11_staysWithin 40 = .ok (.aload_n 0, 1) := by decide +kernel
theorem dX11_staysWithin_41 : decode cX11_staysWithin 41 = .ok (.getfield 53, 3) := by decide +kernel
theorem dX11_staysWithin_44 : decode cX11_staysWithin 44 = .ok (.getfield 148, 3) := by decide +kernel
theorem dX11_staysWithin_47 : decode cX11_staysWithin 47 = .ok (.getfield 154, 3) := by decide +kernel
theorem dX11_staysWithin_50 : decode cX11_staysWithin 50 = .ok (.iload_n 1, 1) := by decide +kernel
theorem dX11_staysWithin_51 : decode cX11_staysWithin 51 = .ok (.iaload, 1) := by decide +kernel
theorem dX11_staysWithin_52 : decode cX11_staysWithin 52 = .ok (.iload_n 3, 1) := by decide +kernel
theorem dX11_staysWithin_53 : decode cX11_staysWithin 53 = .ok (.if_icmp .gt 16, 3) := by decide +kernel
theorem dX11_staysWithin_56 : decode cX11_staysWithin 56 = .ok (.aload_n 0, 1) := by decide +kernel
theorem dX11_staysWithin_57 : decode cX11_staysWithin 57 = .ok (.getfield 53, 3) := by decide +kernel
theorem dX11_staysWithin_60 : decode cX11_staysWithin 60 = .ok (.invokevirtual 340, 3) := by decide +kernel
theorem dX11_staysWithin_63 : decode cX11_staysWithin 63 = .ok (.iinc 5 1, 3) := by decide +kernel
theorem dX11_staysWithin_66 : decode cX11_staysWithin 66 = .ok (.goto (-33), 3) := by decide +kernel
theorem dX11_staysWithin_69 : decode cX11_staysWithin 69 = .ok (.aload_n 0, 1) := by decide +kernel
theorem dX11_staysWithin_70 : decode cX11_staysWithin 70 = .ok (.getfield 53, 3) := by decide +kernel
theorem dX11_staysWithin_73 : decode cX11_staysWithin 73 = .ok (.getfield 148, 3) := by decide +kernel
theorem dX11_staysWithin_76 : decode cX11_staysWithin 76 = .ok (.getfield 154, 3) := by decide +kernel
theorem dX11_staysWithin_79 : decode cX11_staysWithin 79 = .ok (.iload_n 1, 1) := by decide +kernel
theorem dX11_staysWithin_80 : decode cX11_staysWithin 80 = .ok (.iaload, 1) := by decide +kernel
theorem dX11_staysWithin_81 : decode cX11_staysWithin 81 = .ok (.iload_n 3, 1) := by decide +kernel
theorem dX11_staysWithin_82 : decode cX11_staysWithin 82 = .ok (.if_icmp .gt 7, 3) := by decide +kernel
theorem dX11_staysWithin_85 : decode cX11_staysWithin 85 = .ok (.iconst 1, 1) := by decide +kernel
theorem dX11_staysWithin_86 : decode cX11_staysWithin 86 = .ok (.goto 4, 3) := by decide +kernel
theorem dX11_staysWithin_89 : decode cX11_staysWithin 89 = .ok (.iconst 0, 1) := by decide +kernel
theorem dX11_staysWithin_90 : decode cX11_staysWithin 90 = .ok (.ireturn, 1) := by decide +kernel
def WX11_staysWithin (E : ENV) (q0 : Nat) (q0_text : Nat) (q0_town : Nat) (q0_weather : Nat) (q0_rule : Nat) (q0_acts : Nat) (q0_real : Nat) (q0_trial : Nat) (q0_round : Nat) (q0_nights : Nat) (q0_before : Nat) (q0_history : Nat) (q0_kept : Nat) (q0_keptHouses : Nat) (q0_shortest : Nat) (q0_tracks : Nat) (q0_tally : Nat) (q0_told : Nat) (q0_real_state : Nat) (q0_real_owedBy : Nat) (q0_trial_state : Nat) (q0_trial_owedBy : Nat) (q0_trial_state_snow : Nat) (q0_trial_state_path : Nat) (q0_trial_state_debt : Nat) (q0_real_state_snow : Nat) (q0_real_state_path : Nat) (q0_real_state_debt : Nat) (q0_weather_inches : Nat) (q0_town_hold : Nat) (q0_town_below : Nat) (q0_town_hay : Nat) (q0_rule_code : Nat) (q0_rule_draft : Nat) (q0_rule_stack : Nat) (q0_rule_things : Nat) (i_toldCount : Int32) (i_real_owed : Int32) (i_real_slides : Int32) (i_real_struck : Int32) (i_real_slid : Int32) (i_trial_owed : Int32) (i_trial_slides : Int32) (i_trial_struck : Int32) (i_trial_slid : Int32) (i_trial_state_now : Int32) (i_real_state_now : Int32) (a_trial_state_snow : Nat → Int32) (a_trial_state_path : Nat → Int32) (a_trial_state_debt : Nat → Int32) (a_trial_owedBy : Nat → Int32) (a_real_state_snow : Nat → Int32) (a_real_state_path : Nat → Int32) (a_real_state_debt : Nat → Int32) (i_weather_length : Int32) (i_weather_cycle : Int32) (i_town_houses : Int32) (i_rule_length : Int32) (i_rule_drafted : Int32) (a_weather_inches : Nat → Int32) (a_town_hold : Nat → Int32) (a_town_below : Nat → Int32) (a_rule_things : Nat → Int32) (a_rule_stack : Nat → Int32) (a_rule_code : Nat → Int32) : va_W := [(q0, .inr (11, [.ref q0_text, .ref q0_town, .ref q0_weather, .ref q0_rule, .ref q0_acts, .ref q0_real, .ref q0_trial, .ref q0_round, .ref q0_nights, .ref q0_before, .ref q0_history, .ref q0_kept, .ref q0_keptHouses, .ref q0_shortest, .ref q0_tracks, .ref q0_tally, .ref q0_told, .int i_toldCount])), (q0_real, .inr (9, [.ref q0_town, .ref q0_weather, .ref q0_rule, .ref q0_real_state, .ref q0_real_owedBy, .int i_real_owed, .int i_real_slides, .int i_real_struck, .int i_real_slid])), (q0_trial, .inr (9, [.ref q0_town, .ref q0_weather, .ref q0_rule, .ref q0_trial_state, .ref q0_trial_owedBy, .int i_trial_owed, .int i_trial_slides, .int i_trial_struck, .int i_trial_slid])), (q0_trial_state, .inr (5, [.ref q0_trial_state_snow, .ref q0_trial_state_path, .ref q0_trial_state_debt, .int i_trial_state_now])), (q0_real_state, .inr (5, [.ref q0_real_state_snow, .ref q0_real_state_path, .ref q0_real_state_debt, .int i_real_state_now])), (q0_trial_state_snow, .inl (E.2.1, 14, .inl a_trial_state_snow)), (q0_trial_state_path, .inl (E.2.1, 7, .inl a_trial_state_path)), (q0_trial_state_debt, .inl (E.2.1, 49, .inl a_trial_state_debt)), (q0_trial_owedBy, .inl (E.2.1, 7, .inl a_trial_owedBy)), (q0_real_state_snow, .inl (E.2.1, 14, .inl a_real_state_snow)), (q0_real_state_path, .inl (E.2.1, 7, .inl a_real_state_path)), (q0_real_state_debt, .inl (E.2.1, 49, .inl a_real_state_debt)), (q0_weather, .inr (10, [.ref q0_weather_inches, .int i_weather_length, .int i_weather_cycle])), (q0_town, .inr (7, [.ref q0_town_hold, .ref q0_town_below, .ref q0_town_hay, .int i_town_houses])), (q0_rule, .inr (4, [.ref q0_rule_code, .ref q0_rule_draft, .ref q0_rule_stack, .ref q0_rule_things, .int i_rule_length, .int i_rule_drafted])), (q0_weather_inches, .inl (E.2.1, 40, .inl a_weather_inches)), (q0_town_hold, .inl (E.2.1, 7, .inl a_town_hold)), (q0_town_below, .inl (E.2.1, 14, .inl a_town_below)), (q0_rule_things, .inl (E.2.1, 8, .inl a_rule_things)), (q0_rule_stack, .inl (E.2.1, 40, .inl a_rule_stack)), (q0_rule_code, .inl (E.2.1, 40, .inl a_rule_code))]
set_option maxHeartbeats 4000000 in
set_option maxRecDepth 20000 in
theorem kX11_staysWithin (l : Launch) (E : ENV) (q0 : Nat) (q0_text : Nat) (q0_town : Nat) (q0_weather : Nat) (q0_rule : Nat) (q0_acts : Nat) (q0_real : Nat) (q0_trial : Nat) (q0_round : Nat) (q0_nights : Nat) (q0_before : Nat) (q0_history : Nat) (q0_kept : Nat) (q0_keptHouses : Nat) (q0_shortest : Nat) (q0_tracks : Nat) (q0_tally : Nat) (q0_told : Nat) (q0_real_state : Nat) (q0_real_owedBy : Nat) (q0_trial_state : Nat) (q0_trial_owedBy : Nat) (q0_trial_state_snow : Nat) (q0_trial_state_path : Nat) (q0_trial_state_debt : Nat) (q0_real_state_snow : Nat) (q0_real_state_path : Nat) (q0_real_state_debt : Nat) (q0_weather_inches : Nat) (q0_town_hold : Nat) (q0_town_below : Nat) (q0_town_hay : Nat) (q0_rule_code : Nat) (q0_rule_draft : Nat) (q0_rule_stack : Nat) (q0_rule_things : Nat) (i_toldCount : Int32) (i_real_owed : Int32) (i_real_slides : Int32) (i_real_struck : Int32) (i_real_slid : Int32) (i_trial_owed : Int32) (i_trial_slides : Int32) (i_trial_struck : Int32) (i_trial_slid : Int32) (i_trial_state_now : Int32) (i_real_state_now : Int32) (a_trial_state_snow : Nat → Int32) (a_trial_state_path : Nat → Int32) (a_trial_state_debt : Nat → Int32) (a_trial_owedBy : Nat → Int32) (a_real_state_snow : Nat → Int32) (a_real_state_path : Nat → Int32) (a_real_state_debt : Nat → Int32) (i_weather_length : Int32) (i_weather_cycle : Int32) (i_town_houses : Int32) (i_rule_length : Int32) (i_rule_drafted : Int32) (a_weather_inches : Nat → Int32) (a_town_hold : Nat → Int32) (a_town_below : Nat → Int32) (a_rule_things : Nat → Int32) (a_rule_stack : Nat → Int32) (a_rule_code : Nat → Int32) (p1 : Int32) (p2 : Int32) (p3 : Int32) (p4 : Int32) (r9 : Int32) (i_trial_owed9 : Int32) (i_trial_slides9 : Int32) (i_trial_struck9 : Int32) (i_trial_slid9 : Int32) (i_trial_state_now9 : Int32) (a_trial_state_snow9 : Nat → Int32) (a_trial_state_path9 : Nat → Int32) (a_trial_state_debt9 : Nat → Int32) (a_trial_owedBy9 : Nat → Int32) (a_rule_things9 : Nat → Int32) (a_rule_stack9 : Nat → Int32) (hf : fX11_staysWithin i_trial_owed i_trial_slides i_trial_struck i_trial_slid i_trial_state_now i_real_state_now a_trial_state_snow a_trial_state_path a_trial_state_debt a_trial_owedBy a_real_state_snow a_real_state_path a_real_state_debt i_weather_cycle i_town_houses i_rule_length a_weather_inches a_town_hold a_town_below a_rule_things a_rule_stack a_rule_code p1 p2 p3 p4 = some (r9, i_trial_owed9, i_trial_slides9, i_trial_struck9, i_trial_slid9, i_trial_state_now9, a_trial_state_snow9, a_trial_state_path9, a_trial_state_debt9, a_trial_owedBy9, a_rule_things9, a_rule_stack9)) : CI l E yX11_staysWithin cX11_staysWithin 6 (some .boolean) 4 [.ref q0, .int p1, .int p2, .int p3, .int p4] (WX11_staysWithin E q0 q0_text q0_town q0_weather q0_rule q0_acts q0_real q0_trial q0_round q0_nights q0_before q0_history q0_kept q0_keptHouses q0_shortest q0_tracks q0_tally q0_told q0_real_state q0_real_owedBy q0_trial_state q0_trial_owedBy q0_trial_state_snow q0_trial_state_path q0_trial_state_debt q0_real_state_snow q0_real_state_path q0_real_state_debt q0_weather_inches q0_town_hold q0_town_below q0_town_hay q0_rule_code q0_rule_draft q0_rule_stack q0_rule_things i_toldCount i_real_owed i_real_slides i_real_struck i_real_slid i_trial_owed i_trial_slides i_trial_struck i_trial_slid i_trial_state_now i_real_state_now a_trial_state_snow a_trial_state_path a_trial_state_debt a_trial_owedBy a_real_state_snow a_real_state_path a_real_state_debt i_weather_length i_weather_cycle i_town_houses i_rule_length i_rule_drafted a_weather_inches a_town_hold a_town_below a_rule_things a_rule_stack a_rule_code) (WX11_staysWithin E q0 q0_text q0_town q0_weather q0_rule q0_acts q0_real q0_trial q0_round q0_nights q0_before q0_history q0_kept q0_keptHouses q0_shortest q0_tracks q0_tally q0_told q0_real_state q0_real_owedBy q0_trial_state q0_trial_owedBy q0_trial_state_snow q0_trial_state_path q0_trial_state_debt q0_real_state_snow q0_real_state_path q0_real_state_debt q0_weather_inches q0_town_hold q0_town_below q0_town_hay q0_rule_code q0_rule_draft q0_rule_stack q0_rule_things i_toldCount i_real_owed i_real_slides i_real_struck i_real_slid i_trial_owed9 i_trial_slides9 i_trial_struck9 i_trial_slid9 i_trial_state_now9 i_real_state_now a_trial_state_snow9 a_trial_state_path9 a_trial_state_debt9 a_trial_owedBy9 a_real_state_snow a_real_state_path a_real_state_debt i_weather_length i_weather_cycle i_town_houses i_rule_length i_rule_drafted a_weather_inches a_town_hold a_town_below a_rule_things9 a_rule_stack9 a_rule_code) r9 := by
  refine begI (by decide +kernel) (Nat.le_of_ble_eq_true rfl) ?_
  intro p e s m args below meth c A Q C hA hret
  have hx := C.1
  have hb := C.2.1
  have L33 : ∀ (n : Nat) (v5 : Int32) (i_trial_owed : Int32) (i_trial_slides : Int32) (i_trial_struck : Int32) (i_trial_slid : Int32) (i_trial_state_now : Int32) (a_trial_state_snow : Nat → Int32) (a_trial_state_path : Nat → Int32) (a_trial_state_debt : Nat → Int32) (a_trial_owedBy : Nat → Int32) (a_rule_things : Nat → Int32) (a_rule_stack : Nat → Int32) (o : Int32 × Int32 × Int32 × Int32 × Int32 × (Nat → Int32) × (Nat → Int32) × (Nat → Int32) × (Nat → Int32) × (Nat → Int32) × (Nat → Int32)), fX11_staysWithin_L33 i_weather_cycle i_town_houses i_rule_length a_weather_inches a_town_hold a_town_below a_rule_code p1 p3 p4 n v5 i_trial_owed i_trial_slides i_trial_struck i_trial_slid i_trial_state_now a_trial_state_snow a_trial_state_path a_trial_state_debt a_trial_owedBy a_rule_things a_rule_stack = some o → (GO p l e 4 s m args below meth c Q E A 6 69 [] [(0, .ref q0), (1, .int p1), (3, .int p3)] (WX11_staysWithin E q0 q0_text q0_town q0_weather q0_rule q0_acts q0_real q0_trial q0_round q0_nights q0_before q0_history q0_kept q0_keptHouses q0_shortest q0_tracks q0_tally q0_told q0_real_state q0_real_owedBy q0_trial_state q0_trial_owedBy q0_trial_state_snow q0_trial_state_path q0_trial_state_debt q0_real_state_snow q0_real_state_path q0_real_state_debt q0_weather_inches q0_town_hold q0_town_below q0_town_hay q0_rule_code q0_rule_draft q0_rule_stack q0_rule_things i_toldCount i_real_owed i_real_slides i_real_struck i_real_slid o.1 o.2.1 o.2.2.1 o.2.2.2.1 o.2.2.2.2.1 i_real_state_now o.2.2.2.2.2.1 o.2.2.2.2.2.2.1 o.2.2.2.2.2.2.2.1 o.2.2.2.2.2.2.2.2.1 a_real_state_snow a_real_state_path a_real_state_debt i_weather_length i_weather_cycle i_town_houses i_rule_length i_rule_drafted a_weather_inches a_town_hold a_town_below o.2.2.2.2.2.2.2.2.2.1 o.2.2.2.2.2.2.2.2.2.2 a_rule_code)) → GO p l e 4 s m args below meth c Q E A 6 33 [] [(0, .ref q0), (1, .int p1), (3, .int p3), (4, .int p4), (5, .int v5)] (WX11_staysWithin E q0 q0_text q0_town q0_weather q0_rule q0_acts q0_real q0_trial q0_round q0_nights q0_before q0_history q0_kept q0_keptHouses q0_shortest q0_tracks q0_tally q0_told q0_real_state q0_real_owedBy q0_trial_state q0_trial_owedBy q0_trial_state_snow q0_trial_state_path q0_trial_state_debt q0_real_state_snow q0_real_state_path q0_real_state_debt q0_weather_inches q0_town_hold q0_town_below q0_town_hay q0_rule_code q0_rule_draft q0_rule_stack q0_rule_things i_toldCount i_real_owed i_real_slides i_real_struck i_real_slid i_trial_owed i_trial_slides i_trial_struck i_trial_slid i_trial_state_now i_real_state_now a_trial_state_snow a_trial_state_path a_trial_state_debt a_trial_owedBy a_real_state_snow a_real_state_path a_real_state_debt i_weather_length i_weather_cycle i_town_houses i_rule_length i_rule_drafted a_weather_inches a_town_hold a_town_below a_rule_things a_rule_stack a_rule_code) := by
    intro n
    induction n with
    | zero =>
      intro v5 i_trial_owed i_trial_slides i_trial_struck i_trial_slid i_trial_state_now a_trial_state_snow a_trial_state_path a_trial_state_debt a_trial_owedBy a_rule_things a_rule_stack o hf
      have hf : none = some o := hf
      cases hf
    | succ n ih =>
      intro v5 i_trial_owed i_trial_slides i_trial_struck i_trial_slid i_trial_state_now a_trial_state_snow a_trial_state_path a_trial_state_debt a_trial_owedBy a_rule_things a_rule_stack o hf hE
      intro H locs ls hl hP hD hS
      rw [fX11_staysWithin_L33] at hf
      refine lv_iload hx hb dX11_staysWithin_33 (lv_at hl 4 rfl) ?_
      refine lv_iload hx hb dX11_staysWithin_35 (lv_at hl 3 rfl) ?_
      refine lv_icmp_ge (tgt := 69) hx hb dX11_staysWithin_37 (by decide) (fun c5 => ?_) (fun c5 => ?_)
      · rw [if_pos c5] at hf
        have hf := Option.some.inj hf
        subst hf
        exact hE _ _ _ (lv_sub hl [0, 1, 2] rfl) hP hD hS
      · rw [if_neg c5] at hf
        refine lv_aload_n hx hb dX11_staysWithin_40 rfl (lv_at hl 0 rfl) ?_
        refine gf_RX11_53 C hP 0 rfl rfl dX11_staysWithin_41 ?_
        refine gf_RX11_148 C hP 2 rfl rfl dX11_staysWithin_44 ?_
        refine gf_RX11_154 C hP 3 rfl rfl dX11_staysWithin_47 ?_
        refine lv_iload_n hx hb dX11_staysWithin_50 rfl (lv_at hl 1 rfl) ?_
        obtain ⟨g6, hf⟩ := gd_some hf
        refine va_iald hx hb C.2.2.2.2.2.1 hP 6 0 rfl rfl (vin_in g6) dX11_staysWithin_51 ?_
        refine lv_iload_n hx hb dX11_staysWithin_52 rfl (lv_at hl 2 rfl) ?_
        refine lv_icmp_gt (tgt := 69) hx hb dX11_staysWithin_53 (by decide) (fun c7 => ?_) (fun c7 => ?_)
        · rw [if_pos c7] at hf
          have hf := Option.some.inj hf
          subst hf
          exact hE _ _ _ (lv_sub hl [0, 1, 2] rfl) hP hD hS
        · rw [if_neg c7] at hf
          refine lv_aload_n hx hb dX11_staysWithin_56 rfl (lv_at hl 0 rfl) ?_
          refine gf_RX11_53 C hP 0 rfl rfl dX11_staysWithin_57 ?_
          obtain ⟨o8, hg9, hf⟩ := bd_some hf
          refine k_VV (As := []) C K_RX11_340 (Nat.le_of_ble_eq_true rfl) (Nat.le_of_ble_eq_true rfl) (kX9_goDay l E q0_trial q0_town q0_weather q0_rule q0_trial_state q0_trial_owedBy q0_trial_state_snow q0_trial_state_path q0_trial_state_debt q0_weather_inches q0_town_hold q0_town_below q0_town_hay q0_rule_code q0_rule_draft q0_rule_stack q0_rule_things i_trial_owed i_trial_slides i_trial_struck i_trial_slid i_trial_state_now i_weather_length i_weather_cycle a_weather_inches i_town_houses a_trial_state_snow a_trial_state_path a_town_hold a_town_below i_rule_length i_rule_drafted a_rule_things a_rule_stack a_rule_code a_trial_state_debt a_trial_owedBy o8.1 o8.2.1 o8.2.2.1 o8.2.2.2.1 o8.2.2.2.2.1 o8.2.2.2.2.2.1 o8.2.2.2.2.2.2.1 o8.2.2.2.2.2.2.2.1 o8.2.2.2.2.2.2.2.2.1 o8.2.2.2.2.2.2.2.2.2.1 o8.2.2.2.2.2.2.2.2.2.2 hg9) [2, 3, 12, 15, 13, 5, 6, 16, 17, 14, 18, 19, 20, 7, 8] rfl rfl rfl (ci := 9) rfl rfl (q0 := 0) rfl hP hD hS hA hl.1 (Nat.le_of_ble_eq_true rfl) rfl dX11_staysWithin_60 (fun H locs hP hD hS => ?_)
          have hP : va_P E.1 classes (WX11_staysWithin E q0 q0_text q0_town q0_weather q0_rule q0_acts q0_real q0_trial q0_round q0_nights q0_before q0_history q0_kept q0_keptHouses q0_shortest q0_tracks q0_tally q0_told q0_real_state q0_real_owedBy q0_trial_state q0_trial_owedBy q0_trial_state_snow q0_trial_state_path q0_trial_state_debt q0_real_state_snow q0_real_state_path q0_real_state_debt q0_weather_inches q0_town_hold q0_town_below q0_town_hay q0_rule_code q0_rule_draft q0_rule_stack q0_rule_things i_toldCount i_real_owed i_real_slides i_real_struck i_real_slid o8.1 o8.2.1 o8.2.2.1 o8.2.2.2.1 o8.2.2.2.2.1 i_real_state_now o8.2.2.2.2.2.1 o8.2.2.2.2.2.2.1 o8.2.2.2.2.2.2.2.2.2.1 o8.2.2.2.2.2.2.2.2.2.2 a_real_state_snow a_real_state_path a_real_state_debt i_weather_length i_weather_cycle i_town_houses i_rule_length i_rule_drafted a_weather_inches a_town_hold a_town_below o8.2.2.2.2.2.2.2.1 o8.2.2.2.2.2.2.2.2.1 a_rule_code) H := hP
          have hD : va_D A (WX11_staysWithin E q0 q0_text q0_town q0_weather q0_rule q0_acts q0_real q0_trial q0_round q0_nights q0_before q0_history q0_kept q0_keptHouses q0_shortest q0_tracks q0_tally q0_told q0_real_state q0_real_owedBy q0_trial_state q0_trial_owedBy q0_trial_state_snow q0_trial_state_path q0_trial_state_debt q0_real_state_snow q0_real_state_path q0_real_state_debt q0_weather_inches q0_town_hold q0_town_below q0_town_hay q0_rule_code q0_rule_draft q0_rule_stack q0_rule_things i_toldCount i_real_owed i_real_slides i_real_struck i_real_slid o8.1 o8.2.1 o8.2.2.1 o8.2.2.2.1 o8.2.2.2.2.1 i_real_state_now o8.2.2.2.2.2.1 o8.2.2.2.2.2.2.1 o8.2.2.2.2.2.2.2.2.2.1 o8.2.2.2.2.2.2.2.2.2.2 a_real_state_snow a_real_state_path a_real_state_debt i_weather_length i_weather_cycle i_town_houses i_rule_length i_rule_drafted a_weather_inches a_town_hold a_town_below o8.2.2.2.2.2.2.2.1 o8.2.2.2.2.2.2.2.2.1 a_rule_code) := hD
          refine lv_iinc (v := (v5 + 1)) (lv' := [(5, .int ((v5 + 1))), (0, .ref q0), (1, .int p1), (3, .int p3), (4, .int p4)]) hx hb dX11_staysWithin_63 hl (k := 4) rfl rfl (by decide) rfl (fun ls hl => ?_)
          refine lv_goto (tgt := 33) hx hb dX11_staysWithin_66 (by decide) ?_
          exact ih ((v5 + 1)) o8.1 o8.2.1 o8.2.2.1 o8.2.2.2.1 o8.2.2.2.2.1 o8.2.2.2.2.2.1 o8.2.2.2.2.2.2.1 o8.2.2.2.2.2.2.2.2.2.1 o8.2.2.2.2.2.2.2.2.2.2 o8.2.2.2.2.2.2.2.1 o8.2.2.2.2.2.2.2.2.1 _ hf hE _ _ _ (lv_sub hl [1, 2, 3, 4, 0] rfl) hP hD hS
  have J69 : ∀ (i_trial_owed : Int32) (i_trial_slides : Int32) (i_trial_struck : Int32) (i_trial_slid : Int32) (i_trial_state_now : Int32) (a_trial_state_snow : Nat → Int32) (a_trial_state_path : Nat → Int32) (a_trial_state_debt : Nat → Int32) (a_trial_owedBy : Nat → Int32) (a_rule_things : Nat → Int32) (a_rule_stack : Nat → Int32), fX11_staysWithin_J69 p1 p3 i_trial_owed i_trial_slides i_trial_struck i_trial_slid i_trial_state_now a_trial_state_snow a_trial_state_path a_trial_state_debt a_trial_owedBy a_rule_things a_rule_stack = some (r9, i_trial_owed9, i_trial_slides9, i_trial_struck9, i_trial_slid9, i_trial_state_now9, a_trial_state_snow9, a_trial_state_path9, a_trial_state_debt9, a_trial_owedBy9, a_rule_things9, a_rule_stack9) → GO p l e 4 s m args below meth c Q E A 6 69 [] [(0, .ref q0), (1, .int p1), (3, .int p3)] (WX11_staysWithin E q0 q0_text q0_town q0_weather q0_rule q0_acts q0_real q0_trial q0_round q0_nights q0_before q0_history q0_kept q0_keptHouses q0_shortest q0_tracks q0_tally q0_told q0_real_state q0_real_owedBy q0_trial_state q0_trial_owedBy q0_trial_state_snow q0_trial_state_path q0_trial_state_debt q0_real_state_snow q0_real_state_path q0_real_state_debt q0_weather_inches q0_town_hold q0_town_below q0_town_hay q0_rule_code q0_rule_draft q0_rule_stack q0_rule_things i_toldCount i_real_owed i_real_slides i_real_struck i_real_slid i_trial_owed i_trial_slides i_trial_struck i_trial_slid i_trial_state_now i_real_state_now a_trial_state_snow a_trial_state_path a_trial_state_debt a_trial_owedBy a_real_state_snow a_real_state_path a_real_state_debt i_weather_length i_weather_cycle i_town_houses i_rule_length i_rule_drafted a_weather_inches a_town_hold a_town_below a_rule_things a_rule_stack a_rule_code) := by
    intro i_trial_owed i_trial_slides i_trial_struck i_trial_slid i_trial_state_now a_trial_state_snow a_trial_state_path a_trial_state_debt a_trial_owedBy a_rule_things a_rule_stack hf H locs ls hl hP hD hS
    unfold fX11_staysWithin_J69 at hf
    refine lv_aload_n hx hb dX11_staysWithin_69 rfl (lv_at hl 0 rfl) ?_
    refine gf_RX11_53 C hP 0 rfl rfl dX11_staysWithin_70 ?_
    refine gf_RX11_148 C hP 2 rfl rfl dX11_staysWithin_73 ?_
    refine gf_RX11_154 C hP 3 rfl rfl dX11_staysWithin_76 ?_
    refine lv_iload_n hx hb dX11_staysWithin_79 rfl (lv_at hl 1 rfl) ?_
    obtain ⟨g12, hf⟩ := gd_some hf
    refine va_iald hx hb C.2.2.2.2.2.1 hP 6 0 rfl rfl (vin_in g12) dX11_staysWithin_80 ?_
    refine lv_iload_n hx hb dX11_staysWithin_81 rfl (lv_at hl 2 rfl) ?_
    refine lv_icmp_gt (tgt := 89) hx hb dX11_staysWithin_82 (by decide) (fun c13 => ?_) (fun c13 => ?_)
    · rw [if_pos c13] at hf
      refine lv_iconst (v := 0) hx hb dX11_staysWithin_89 (by decide) ?_
      have hj0 := Option.some.inj hf
      obtain ⟨ha0, hj1⟩ := Prod.mk.inj hj0
      obtain ⟨ha1, hj2⟩ := Prod.mk.inj hj1
      obtain ⟨ha2, hj3⟩ := Prod.mk.inj hj2
      obtain ⟨ha3, hj4⟩ := Prod.mk.inj hj3
      obtain ⟨ha4, hj5⟩ := Prod.mk.inj hj4
      obtain ⟨ha5, hj6⟩ := Prod.mk.inj hj5
      obtain ⟨ha6, hj7⟩ := Prod.mk.inj hj6
      obtain ⟨ha7, hj8⟩ := Prod.mk.inj hj7
      obtain ⟨ha8, hj9⟩ := Prod.mk.inj hj8
      obtain ⟨ha9, hj10⟩ := Prod.mk.inj hj9
      obtain ⟨ha10, hj11⟩ := Prod.mk.inj hj10
      subst ha0
      subst ha1
      subst ha2
      subst ha3
      subst ha4
      subst ha5
      subst ha6
      subst ha7
      subst ha8
      subst ha9
      subst ha10
      subst hj11
      exact hret _ _ _ _ dX11_staysWithin_90 rfl hP hD hS
    · rw [if_neg c13] at hf
      refine lv_iconst (v := 1) hx hb dX11_staysWithin_85 (by decide) ?_
      refine lv_goto (tgt := 90) hx hb dX11_staysWithin_86 (by decide) ?_
      have hj0 := Option.some.inj hf
      obtain ⟨ha0, hj1⟩ := Prod.mk.inj hj0
      obtain ⟨ha1, hj2⟩ := Prod.mk.inj hj1
      obtain ⟨ha2, hj3⟩ := Prod.mk.inj hj2
      obtain ⟨ha3, hj4⟩ := Prod.mk.inj hj3
      obtain ⟨ha4, hj5⟩ := Prod.mk.inj hj4
      obtain ⟨ha5, hj6⟩ := Prod.mk.inj hj5
      obtain ⟨ha6, hj7⟩ := Prod.mk.inj hj6
      obtain ⟨ha7, hj8⟩ := Prod.mk.inj hj7
      obtain ⟨ha8, hj9⟩ := Prod.mk.inj hj8
      obtain ⟨ha9, hj10⟩ := Prod.mk.inj hj9
      obtain ⟨ha10, hj11⟩ := Prod.mk.inj hj10
      subst ha0
      subst ha1
      subst ha2
      subst ha3
      subst ha4
      subst ha5
      subst ha6
      subst ha7
      subst ha8
      subst ha9
      subst ha10
      subst hj11
      exact hret _ _ _ _ dX11_staysWithin_90 rfl hP hD hS
  intro H locs ls hl hP hD hS
  have hl : lv_has ls 6 [(0, .ref q0), (1, .int p1), (2, .int p2), (3, .int p3), (4, .int p4)] := hl
  unfold fX11_staysWithin at hf
  refine lv_aload_n hx hb dX11_staysWithin_0 rfl (lv_at hl 0 rfl) ?_
  refine gf_RX11_53 C hP 0 rfl rfl dX11_staysWithin_1 ?_
  refine lv_aload_n hx hb dX11_staysWithin_4 rfl (lv_at hl 0 rfl) ?_
  refine gf_RX11_49 C hP 0 rfl rfl dX11_staysWithin_5 ?_
  refine gf_RX11_148 C hP 1 rfl rfl dX11_staysWithin_8 ?_
  obtain ⟨o1, hg2, hf⟩ := bd_some hf
  refine k_VV (As := [.ref q0_real_state]) C K_RX11_337 (Nat.le_of_ble_eq_true rfl) (Nat.le_of_ble_eq_true rfl) (kX9_beginAt l E q0_trial q0_town q0_weather q0_rule q0_trial_state q0_trial_owedBy q0_trial_state_snow q0_trial_state_path q0_trial_state_debt q0_real_state q0_real_state_snow q0_real_state_path q0_real_state_debt i_trial_owed i_trial_slides i_trial_struck i_trial_slid i_trial_state_now a_trial_state_snow a_trial_state_path a_trial_state_debt a_trial_owedBy i_real_state_now a_real_state_snow a_real_state_path a_real_state_debt o1.1 o1.2.1 o1.2.2.1 o1.2.2.2.1 o1.2.2.2.2.1 o1.2.2.2.2.2.1 o1.2.2.2.2.2.2.1 o1.2.2.2.2.2.2.2.1 o1.2.2.2.2.2.2.2.2 hg2) [2, 3, 5, 6, 7, 8, 4, 9, 10, 11] rfl rfl rfl (ci := 9) rfl rfl (q0 := 0) rfl hP hD hS hA hl.1 (Nat.le_of_ble_eq_true rfl) rfl dX11_staysWithin_11 (fun H locs hP hD hS => ?_)
  have hP : va_P E.1 classes (WX11_staysWithin E q0 q0_text q0_town q0_weather q0_rule q0_acts q0_real q0_trial q0_round q0_nights q0_before q0_history q0_kept q0_keptHouses q0_shortest q0_tracks q0_tally q0_told q0_real_state q0_real_owedBy q0_trial_state q0_trial_owedBy q0_trial_state_snow q0_trial_state_path q0_trial_state_debt q0_real_state_snow q0_real_state_path q0_real_state_debt q0_weather_inches q0_town_hold q0_town_below q0_town_hay q0_rule_code q0_rule_draft q0_rule_stack q0_rule_things i_toldCount i_real_owed i_real_slides i_real_struck i_real_slid o1.1 o1.2.1 o1.2.2.1 o1.2.2.2.1 o1.2.2.2.2.1 i_real_state_now o1.2.2.2.2.2.1 o1.2.2.2.2.2.2.1 o1.2.2.2.2.2.2.2.1 o1.2.2.2.2.2.2.2.2 a_real_state_snow a_real_state_path a_real_state_debt i_weather_length i_weather_cycle i_town_houses i_rule_length i_rule_drafted a_weather_inches a_town_hold a_town_below a_rule_things a_rule_stack a_rule_code) H := hP
  have hD : va_D A (WX11_staysWithin E q0 q0_text q0_town q0_weather q0_rule q0_acts q0_real q0_trial q0_round q0_nights q0_before q0_history q0_kept q0_keptHouses q0_shortest q0_tracks q0_tally q0_told q0_real_state q0_real_owedBy q0_trial_state q0_trial_owedBy q0_trial_state_snow q0_trial_state_path q0_trial_state_debt q0_real_state_snow q0_real_state_path q0_real_state_debt q0_weather_inches q0_town_hold q0_town_below q0_town_hay q0_rule_code q0_rule_draft q0_rule_stack q0_rule_things i_toldCount i_real_owed i_real_slides i_real_struck i_real_slid o1.1 o1.2.1 o1.2.2.1 o1.2.2.2.1 o1.2.2.2.2.1 i_real_state_now o1.2.2.2.2.2.1 o1.2.2.2.2.2.2.1 o1.2.2.2.2.2.2.2.1 o1.2.2.2.2.2.2.2.2 a_real_state_snow a_real_state_path a_real_state_debt i_weather_length i_weather_cycle i_town_houses i_rule_length i_rule_drafted a_weather_inches a_town_hold a_town_below a_rule_things a_rule_stack a_rule_code) := hD
  refine lv_aload_n hx hb dX11_staysWithin_14 rfl (lv_at hl 0 rfl) ?_
  refine gf_RX11_53 C hP 0 rfl rfl dX11_staysWithin_15 ?_
  refine gf_RX11_148 C hP 2 rfl rfl dX11_staysWithin_18 ?_
  refine gf_RX11_154 C hP 3 rfl rfl dX11_staysWithin_21 ?_
  refine lv_iload_n hx hb dX11_staysWithin_24 rfl (lv_at hl 1 rfl) ?_
  refine lv_dup2_11 hx hb dX11_staysWithin_25 rfl rfl ?_
  obtain ⟨g3, hf⟩ := gd_some hf
  refine va_iald hx hb C.2.2.2.2.2.1 hP 6 0 rfl rfl (vin_in g3) dX11_staysWithin_26 ?_
  refine lv_iload_n hx hb dX11_staysWithin_27 rfl (lv_at hl 2 rfl) ?_
  refine lv_isub hx hb dX11_staysWithin_28 ?_
  obtain ⟨g4, hf⟩ := gd_some hf
  refine va_iast hx hb C.2.2.2.2.2.1 hP hD hS 6 0 rfl rfl (vin_in g4) dX11_staysWithin_29 (fun H locs hP hD hS => ?_)
  have hP : va_P E.1 classes (WX11_staysWithin E q0 q0_text q0_town q0_weather q0_rule q0_acts q0_real q0_trial q0_round q0_nights q0_before q0_history q0_kept q0_keptHouses q0_shortest q0_tracks q0_tally q0_told q0_real_state q0_real_owedBy q0_trial_state q0_trial_owedBy q0_trial_state_snow q0_trial_state_path q0_trial_state_debt q0_real_state_snow q0_real_state_path q0_real_state_debt q0_weather_inches q0_town_hold q0_town_below q0_town_hay q0_rule_code q0_rule_draft q0_rule_stack q0_rule_things i_toldCount i_real_owed i_real_slides i_real_struck i_real_slid o1.1 o1.2.1 o1.2.2.1 o1.2.2.2.1 o1.2.2.2.2.1 i_real_state_now o1.2.2.2.2.2.1 ((upd o1.2.2.2.2.2.2.1 (p1 : Int32).toNatClampNeg ((((o1.2.2.2.2.2.2.1 (p1 : Int32).toNatClampNeg)) - p2)))) o1.2.2.2.2.2.2.2.1 o1.2.2.2.2.2.2.2.2 a_real_state_snow a_real_state_path a_real_state_debt i_weather_length i_weather_cycle i_town_houses i_rule_length i_rule_drafted a_weather_inches a_town_hold a_town_below a_rule_things a_rule_stack a_rule_code) H := hP
  have hD : va_D A (WX11_staysWithin E q0 q0_text q0_town q0_weather q0_rule q0_acts q0_real q0_trial q0_round q0_nights q0_before q0_history q0_kept q0_keptHouses q0_shortest q0_tracks q0_tally q0_told q0_real_state q0_real_owedBy q0_trial_state q0_trial_owedBy q0_trial_state_snow q0_trial_state_path q0_trial_state_debt q0_real_state_snow q0_real_state_path q0_real_state_debt q0_weather_inches q0_town_hold q0_town_below q0_town_hay q0_rule_code q0_rule_draft q0_rule_stack q0_rule_things i_toldCount i_real_owed i_real_slides i_real_struck i_real_slid o1.1 o1.2.1 o1.2.2.1 o1.2.2.2.1 o1.2.2.2.2.1 i_real_state_now o1.2.2.2.2.2.1 ((upd o1.2.2.2.2.2.2.1 (p1 : Int32).toNatClampNeg ((((o1.2.2.2.2.2.2.1 (p1 : Int32).toNatClampNeg)) - p2)))) o1.2.2.2.2.2.2.2.1 o1.2.2.2.2.2.2.2.2 a_real_state_snow a_real_state_path a_real_state_debt i_weather_length i_weather_cycle i_town_houses i_rule_length i_rule_drafted a_weather_inches a_town_hold a_town_below a_rule_things a_rule_stack a_rule_code) := hD
  refine lv_iconst (v := 0) hx hb dX11_staysWithin_30 (by decide) ?_
  refine lv_istore (lv' := [(5, .int 0), (0, .ref q0), (1, .int p1), (2, .int p2), (3, .int p3), (4, .int p4)]) hx hb dX11_staysWithin_31 hl (by decide) rfl (fun ls hl => ?_)
  obtain ⟨o10, hg11, hf⟩ := bd_some hf
  refine L33 FU 0 o1.1 o1.2.1 o1.2.2.1 o1.2.2.2.1 o1.2.2.2.2.1 o1.2.2.2.2.2.1 ((upd o1.2.2.2.2.2.2.1 (p1 : Int32).toNatClampNeg ((((o1.2.2.2.2.2.2.1 (p1 : Int32).toNatClampNeg)) - p2)))) o1.2.2.2.2.2.2.2.1 o1.2.2.2.2.2.2.2.2 a_rule_things a_rule_stack o10 hg11 ?_ _ _ _ (lv_sub hl [1, 2, 4, 5, 0] rfl) hP hD hS
  intro H locs ls hl hP hD hS
  exact J69 o10.1 o10.2.1 o10.2.2.1 o10.2.2.2.1 o10.2.2.2.2.1 o10.2.2.2.2.2.1 o10.2.2.2.2.2.2.1 o10.2.2.2.2.2.2.2.1 o10.2.2.2.2.2.2.2.2.1 o10.2.2.2.2.2.2.2.2.2.1 o10.2.2.2.2.2.2.2.2.2.2 hf _ _ _ (lv_sub hl [0, 1, 2] rfl) hP hD hS
theorem K_RX11_360 : KV RX11 360 yX11_staysWithin cX11_staysWithin 6 (some .boolean) 4 := ⟨Tg_mem 1097 (by decide +kernel) (by decide +kernel), Tg_mem 90 (by decide +kernel) (by decide +kernel), Tg_mem 1094 (by decide +kernel) (by decide +kernel), Tg_mem 1096 (by decide +kernel) (by decide +kernel), Tg_mem 31 (by decide +kernel) (by decide +kernel), by decide +kernel⟩
theorem dX11_dig_0 : decode cX11_dig 0 = .ok (.aload_n 0, 1) := by decide +kernel
theorem dX11_dig_1 : decode cX11_dig 1 = .ok (.getfield 19, 3) := by decide +kernel
theorem dX11_dig_4 : decode cX11_dig 4 = .ok (.iload_n 1, 1) := by decide +kernel
theorem dX11_dig_5 : decode cX11_dig 5 = .ok (.invokevirtual 139, 3) := by decide +kernel
theorem dX11_dig_8 : decode cX11_dig 8 = .ok (.ifCond .eq 24, 3) := by decide +kernel
theorem dX11_dig_11 : decode cX11_dig 11 = .ok (.iload_n 2, 1) := by decide +kernel
theorem dX11_dig_12 : decode cX11_dig 12 = .ok (.iconst 0, 1) := by decide +kernel
theorem dX11_dig_13 : decode cX11_dig 13 = .ok (.sipush 999, 3) := by decide +kernel
theorem dX11_dig_16 : decode cX11_dig 16 = .ok (.invokestatic 128, 3) := by decide +kernel
theorem dX11_dig_19 : decode cX11_dig 19 = .ok (.ifCond .eq 13, 3) := by decide +kernel
theorem dX11_dig_22 : decode cX11_dig 22 = .ok (.iload_n 3, 1) := by decide +kernel
theorem dX11_dig_23 : decode cX11_dig 23 = .ok (.iconst 0, 1) := by decide +kernel
theorem dX11_dig_24 : decode cX11_dig 24 = .ok (.bipush 60, 2) := by decide +kernel
theorem dX11_dig_26 : decode cX11_dig 26 = .ok (.invokestatic 128, 3) := by decide +kernel
theorem dX11_dig_29 : decode cX11_dig 29 = .ok (.ifCond .ne 5, 3) := by decide +kernel
theorem dX11_dig_32 : decode cX11_dig 32 = .ok (.iconst (-1), 1) := by decide +kernel
theorem dX11_dig_33 : decode cX11_dig 33 = .ok (.ireturn, 1) := by decide +kernel
theorem dX11_dig_34 : decode cX11_dig 34 = .ok (.aload_n 0, 1) := by decide +kernel
theorem dX11_dig_35 : decode cX11_dig 35 = .ok (.getfield 49, 3) := by decide +kernel
theorem dX11_dig_38 : decode cX11_dig 38 = .ok (.getfield 148, 3) := by decide +kernel
theorem dX11_dig_41 : decode cX11_dig 41 = .ok (.getfield 154, 3) := by decide +kernel
theorem dX11_dig_44 : decode cX11_dig 44 = .ok (.iload_n 1, 1) := by decide +kernel
theorem dX11_dig_45 : decode cX11_dig 45 = .ok (.iaload, 1) := by decide +kernel
theorem dX11_dig_46 : decode cX11_dig 46 = .ok (.istore 4, 2) := by decide +kernel
theorem dX11_dig_48 : decode cX11_dig 48 = .ok (.aload_n 0, 1) := by decide +kernel
theorem dX11_dig_49 : decode cX11_dig 49 = .ok (.iload_n 1, 1) := by decide +kernel
theorem dX11_dig_50 : decode cX11_dig 50 = .ok (.iload 4, 2) := by decide +kernel
theorem dX11_dig_52 : decode cX11_dig 52 = .ok (.iload_n 2, 1) := by decide +kernel
theorem dX11_dig_53 : decode cX11_dig 53 = .ok (.iload_n 3, 1) := by decide +kernel
theorem dX11_dig_54 : decode cX11_dig 54 = .ok (.invokevirtual 360, 3) := by decide +kernel
theorem dX11_dig_57 : decode cX11_dig 57 = .ok (.ifCond .ne 6, 3) := by decide +kernel
theorem dX11_dig_60 : decode cX11_dig 60 = .ok (.bipush (-2), 2) := by decide +kernel
theorem dX11_dig_62 : decode cX11_dig 62 = .ok (.ireturn, 1) := by decide +kernel
theorem dX11_dig_63 : decode cX11_dig 63 = .ok (.iconst 0, 1) := by decide +kernel
theorem dX11_dig_64 : decode cX11_dig 64 = .ok (.istore 5, 2) := by decide +kernel
theorem dX11_dig_66 : decode cX11_dig 66 = .ok (.iconst 0, 1) := by decide +kernel
theorem dX11_dig_67 : decode cX11_dig 67 = .ok (.istore 6, 2) := by decide +kernel
theorem dX11_dig_69 : decode cX11_dig 69 = .ok (.iload 6, 2) := by decide +kernel
theorem dX11_dig_71 : decode cX11_dig 71 = .ok (.sipush 999, 3) := by decide +kernel
theorem dX11_dig_74 : decode cX11_dig 74 = .ok (.if_icmp .gt 50, 3) := by decide +kernel
theorem dX11_dig_77 : decode cX11_dig 77 = .ok (.iload 5, 2) := by decide +kernel
theorem dX11_dig_79 : decode cX11_dig 79 = .ok (.iload 4, 2) := by decide +kernel
theorem dX11_dig_81 : decode cX11_dig 81 = .ok (.if_icmp .ge 43, 3) := by decide +kernel
theorem dX11_dig_84 : decode cX11_dig 84 = .ok (.iload 5, 2) := by decide +kernel
theorem dX11_dig_86 : decode cX11_dig 86 = .ok (.iload 4, 2) := by decide +kernel
theorem dX11_dig_88 : decode cX11_dig 88 = .ok (.iadd, 1) := by decide +kernel
theorem dX11_dig_89 : decode cX11_dig 89 = .ok (.iconst 2, 1) := by decide +kernel
theorem dX11_dig_90 : decode cX11_dig 90 = .ok (.idiv, 1) := by decide +kernel
theorem dX11_dig_91 : decode cX11_dig 91 = .ok (.istore 7, 2) := by decide +kernel
theorem dX11_dig_93 : decode cX11_dig 93 = .ok (.aload_n 0, 1) := by decide +kernel
theorem dX11_dig_94 : decode cX11_dig 94 = .ok (.iload_n 1, 1) := by decide +kernel
theorem dX11_dig_95 : decode cX11_dig 95 = .ok (.iload 7, 2) := by decide +kernel
theorem dX11_dig_97 : decode cX11_dig 97 = .ok (.iload_n 2, 1) := by decide +kernel
theorem dX11_dig_98 : decode cX11_dig 98 = .ok (.iload_n 3, 1) := by decide +kernel
theorem dX11_dig_99 : decode cX11_dig 99 = .ok (.invokevirtual 360, 3) := by decide +kernel
theorem dX11_dig_102 : decode cX11_dig 102 = .ok (.ifCond .eq 10, 3) := by decide +kernel
theorem dX11_dig_105 : decode cX11_dig 105 = .ok (.iload 7, 2) := by decide +kernel
theorem dX11_dig_107 : decode cX11_dig 107 = .ok (.istore 4, 2) := by decide +kernel
theorem dX11_dig_109 : decode cX11_dig 109 = .ok (.goto 9, 3) := by decide +kernel
theorem dX11_dig_112 : decode cX11_dig 112 = .ok (.iload 7, 2) := by decide +kernel
theorem dX11_dig_114 : decode cX11_dig 114 = .ok (.iconst 1, 1) := by decide +kernel
theorem dX11_dig_115 : decode cX11_dig 115 = .ok (.iadd, 1) := by decide +kernel
theorem dX11_dig_116 : decode cX11_dig 116 = .ok (.istore 5, 2) := by decide +kernel
theorem dX11_dig_118 : decode cX11_dig 118 = .ok (.iinc 6 1, 3) := by decide +kernel
theorem dX11_dig_121 : decode cX11_dig 121 = .ok (.goto (-52), 3) := by decide +kernel
theorem dX11_dig_124 : decode cX11_dig 124 = .ok (.iload 5, 2) := by decide +kernel
theorem dX11_dig_126 : decode cX11_dig 126 = .ok (.ireturn, 1) := by decide +kernel
def WX11_dig (E : ENV) (q0 : Nat) (q0_text : Nat) (q0_town : Nat) (q0_weather : Nat) (q0_rule : Nat) (q0_acts : Nat) (q0_real : Nat) (q0_trial : Nat) (q0_round : Nat) (q0_nights : Nat) (q0_before : Nat) (q0_history : Nat) (q0_kept : Nat) (q0_keptHouses : Nat) (q0_shortest : Nat) (q0_tracks : Nat) (q0_tally : Nat) (q0_told : Nat) (q0_town_hold : Nat) (q0_town_below : Nat) (q0_town_hay : Nat) (q0_real_state : Nat) (q0_real_owedBy : Nat) (q0_real_state_snow : Nat) (q0_real_state_path : Nat) (q0_real_state_debt : Nat) (q0_trial_state : Nat) (q0_trial_owedBy : Nat) (q0_trial_state_snow : Nat) (q0_trial_state_path : Nat) (q0_trial_state_debt : Nat) (q0_weather_inches : Nat) (q0_rule_code : Nat) (q0_rule_draft : Nat) (q0_rule_stack : Nat) (q0_rule_things : Nat) (i_toldCount : Int32) (i_town_houses : Int32) (i_real_owed : Int32) (i_real_slides : Int32) (i_real_struck : Int32) (i_real_slid : Int32) (i_real_state_now : Int32) (a_real_state_path : Nat → Int32) (i_trial_owed : Int32) (i_trial_slides : Int32) (i_trial_struck : Int32) (i_trial_slid : Int32) (i_trial_state_now : Int32) (i_weather_length : Int32) (i_weather_cycle : Int32) (i_rule_length : Int32) (i_rule_drafted : Int32) (a_trial_state_snow : Nat → Int32) (a_trial_state_path : Nat → Int32) (a_trial_state_debt : Nat → Int32) (a_trial_owedBy : Nat → Int32) (a_real_state_snow : Nat → Int32) (a_real_state_debt : Nat → Int32) (a_weather_inches : Nat → Int32) (a_town_hold : Nat → Int32) (a_town_below : Nat → Int32) (a_rule_things : Nat → Int32) (a_rule_stack : Nat → Int32) (a_rule_code : Nat → Int32) : va_W := [(q0, .inr (11, [.ref q0_text, .ref q0_town, .ref q0_weather, .ref q0_rule, .ref q0_acts, .ref q0_real, .ref q0_trial, .ref q0_round, .ref q0_nights, .ref q0_before, .ref q0_history, .ref q0_kept, .ref q0_keptHouses, .ref q0_shortest, .ref q0_tracks, .ref q0_tally, .ref q0_told, .int i_toldCount])), (q0_town, .inr (7, [.ref q0_town_hold, .ref q0_town_below, .ref q0_town_hay, .int i_town_houses])), (q0_real, .inr (9, [.ref q0_town, .ref q0_weather, .ref q0_rule, .ref q0_real_state, .ref q0_real_owedBy, .int i_real_owed, .int i_real_slides, .int i_real_struck, .int i_real_slid])), (q0_real_state, .inr (5, [.ref q0_real_state_snow, .ref q0_real_state_path, .ref q0_real_state_debt, .int i_real_state_now])), (q0_real_state_path, .inl (E.2.1, 7, .inl a_real_state_path)), (q0_trial, .inr (9, [.ref q0_town, .ref q0_weather, .ref q0_rule, .ref q0_trial_state, .ref q0_trial_owedBy, .int i_trial_owed, .int i_trial_slides, .int i_trial_struck, .int i_trial_slid])), (q0_trial_state, .inr (5, [.ref q0_trial_state_snow, .ref q0_trial_state_path, .ref q0_trial_state_debt, .int i_trial_state_now])), (q0_weather, .inr (10, [.ref q0_weather_inches, .int i_weather_length, .int i_weather_cycle])), (q0_rule, .inr (4, [.ref q0_rule_code, .ref q0_rule_draft, .ref q0_rule_stack, .ref q0_rule_things, .int i_rule_length, .int i_rule_drafted])), (q0_trial_state_snow, .inl (E.2.1, 14, .inl a_trial_state_snow)), (q0_trial_state_path, .inl (E.2.1, 7, .inl a_trial_state_path)), (q0_trial_state_debt, .inl (E.2.1, 49, .inl a_trial_state_debt)), (q0_trial_owedBy, .inl (E.2.1, 7, .inl a_trial_owedBy)), (q0_real_state_snow, .inl (E.2.1, 14, .inl a_real_state_snow)), (q0_real_state_debt, .inl (E.2.1, 49, .inl a_real_state_debt)), (q0_weather_inches, .inl (E.2.1, 40, .inl a_weather_inches)), (q0_town_hold, .inl (E.2.1, 7, .inl a_town_hold)), (q0_town_below, .inl (E.2.1, 14, .inl a_town_below)), (q0_rule_things, .inl (E.2.1, 8, .inl a_rule_things)), (q0_rule_stack, .inl (E.2.1, 40, .inl a_rule_stack)), (q0_rule_code, .inl (E.2.1, 40, .inl a_rule_code))]
set_option maxHeartbeats 4000000 in
set_option maxRecDepth 20000 in
theorem kX11_dig (l : Launch) (E : ENV) (q0 : Nat) (q0_text : Nat) (q0_town : Nat) (q0_weather : Nat) (q0_rule : Nat) (q0_acts : Nat) (q0_real : Nat) (q0_trial : Nat) (q0_round : Nat) (q0_nights : Nat) (q0_before : Nat) (q0_history : Nat) (q0_kept : Nat) (q0_keptHouses : Nat) (q0_shortest : Nat) (q0_tracks : Nat) (q0_tally : Nat) (q0_told : Nat) (q0_town_hold : Nat) (q0_town_below : Nat) (q0_town_hay : Nat) (q0_real_state : Nat) (q0_real_owedBy : Nat) (q0_real_state_snow : Nat) (q0_real_state_path : Nat) (q0_real_state_debt : Nat) (q0_trial_state : Nat) (q0_trial_owedBy : Nat) (q0_trial_state_snow : Nat) (q0_trial_state_path : Nat) (q0_trial_state_debt : Nat) (q0_weather_inches : Nat) (q0_rule_code : Nat) (q0_rule_draft : Nat) (q0_rule_stack : Nat) (q0_rule_things : Nat) (i_toldCount : Int32) (i_town_houses : Int32) (i_real_owed : Int32) (i_real_slides : Int32) (i_real_struck : Int32) (i_real_slid : Int32) (i_real_state_now : Int32) (a_real_state_path : Nat → Int32) (i_trial_owed : Int32) (i_trial_slides : Int32) (i_trial_struck : Int32) (i_trial_slid : Int32) (i_trial_state_now : Int32) (i_weather_length : Int32) (i_weather_cycle : Int32) (i_rule_length : Int32) (i_rule_drafted : Int32) (a_trial_state_snow : Nat → Int32) (a_trial_state_path : Nat → Int32) (a_trial_state_debt : Nat → Int32) (a_trial_owedBy : Nat → Int32) (a_real_state_snow : Nat → Int32) (a_real_state_debt : Nat → Int32) (a_weather_inches : Nat → Int32) (a_town_hold : Nat → Int32) (a_town_below : Nat → Int32) (a_rule_things : Nat → Int32) (a_rule_stack : Nat → Int32) (a_rule_code : Nat → Int32) (p1 : Int32) (p2 : Int32) (p3 : Int32) (r9 : Int32) (i_trial_owed9 : Int32) (i_trial_slides9 : Int32) (i_trial_struck9 : Int32) (i_trial_slid9 : Int32) (i_trial_state_now9 : Int32) (a_trial_state_snow9 : Nat → Int32) (a_trial_state_path9 : Nat → Int32) (a_trial_state_debt9 : Nat → Int32) (a_trial_owedBy9 : Nat → Int32) (a_rule_things9 : Nat → Int32) (a_rule_stack9 : Nat → Int32) (hf : fX11_dig i_town_houses i_real_state_now a_real_state_path i_trial_owed i_trial_slides i_trial_struck i_trial_slid i_trial_state_now i_weather_cycle i_rule_length a_trial_state_snow a_trial_state_path a_trial_state_debt a_trial_owedBy a_real_state_snow a_real_state_debt a_weather_inches a_town_hold a_town_below a_rule_things a_rule_stack a_rule_code p1 p2 p3 = some (r9, i_trial_owed9, i_trial_slides9, i_trial_struck9, i_trial_slid9, i_trial_state_now9, a_trial_state_snow9, a_trial_state_path9, a_trial_state_debt9, a_trial_owedBy9, a_rule_things9, a_rule_stack9)) : CI l E yX11_dig cX11_dig 8 (some .int) 5 [.ref q0, .int p1, .int p2, .int p3] (WX11_dig E q0 q0_text q0_town q0_weather q0_rule q0_acts q0_real q0_trial q0_round q0_nights q0_before q0_history q0_kept q0_keptHouses q0_shortest q0_tracks q0_tally q0_told q0_town_hold q0_town_below q0_town_hay q0_real_state q0_real_owedBy q0_real_state_snow q0_real_state_path q0_real_state_debt q0_trial_state q0_trial_owedBy q0_trial_state_snow q0_trial_state_path q0_trial_state_debt q0_weather_inches q0_rule_code q0_rule_draft q0_rule_stack q0_rule_things i_toldCount i_town_houses i_real_owed i_real_slides i_real_struck i_real_slid i_real_state_now a_real_state_path i_trial_owed i_trial_slides i_trial_struck i_trial_slid i_trial_state_now i_weather_length i_weather_cycle i_rule_length i_rule_drafted a_trial_state_snow a_trial_state_path a_trial_state_debt a_trial_owedBy a_real_state_snow a_real_state_debt a_weather_inches a_town_hold a_town_below a_rule_things a_rule_stack a_rule_code) (WX11_dig E q0 q0_text q0_town q0_weather q0_rule q0_acts q0_real q0_trial q0_round q0_nights q0_before q0_history q0_kept q0_keptHouses q0_shortest q0_tracks q0_tally q0_told q0_town_hold q0_town_below q0_town_hay q0_real_state q0_real_owedBy q0_real_state_snow q0_real_state_path q0_real_state_debt q0_trial_state q0_trial_owedBy q0_trial_state_snow q0_trial_state_path q0_trial_state_debt q0_weather_inches q0_rule_code q0_rule_draft q0_rule_stack q0_rule_things i_toldCount i_town_houses i_real_owed i_real_slides i_real_struck i_real_slid i_real_state_now a_real_state_path i_trial_owed9 i_trial_slides9 i_trial_struck9 i_trial_slid9 i_trial_state_now9 i_weather_length i_weather_cycle i_rule_length i_rule_drafted a_trial_state_snow9 a_trial_state_path9 a_trial_state_debt9 a_trial_owedBy9 a_real_state_snow a_real_state_debt a_weather_inches a_town_hold a_town_below a_rule_things9 a_rule_stack9 a_rule_code) r9 := by
  refine begI (by decide +kernel) (Nat.le_of_ble_eq_true rfl) ?_
  intro p e s m args below meth c A Q C hA hret
  have hx := C.1
  have hb := C.2.1
  have L69 : ∀ (n : Nat) (v4 : Int32) (v5 : Int32) (v6 : Int32) (i_trial_owed : Int32) (i_trial_slides : Int32) (i_trial_struck : Int32) (i_trial_slid : Int32) (i_trial_state_now : Int32) (a_trial_state_snow : Nat → Int32) (a_trial_state_path : Nat → Int32) (a_trial_state_debt : Nat → Int32) (a_trial_owedBy : Nat → Int32) (a_rule_things : Nat → Int32) (a_rule_stack : Nat → Int32) (o : Int32 × Int32 × Int32 × Int32 × Int32 × Int32 × (Nat → Int32) × (Nat → Int32) × (Nat → Int32) × (Nat → Int32) × (Nat → Int32) × (Nat → Int32)), fX11_dig_L69 i_town_houses i_real_state_now a_real_state_path i_weather_cycle i_rule_length a_real_state_snow a_real_state_debt a_weather_inches a_town_hold a_town_below a_rule_code p1 p2 p3 n v4 v5 v6 i_trial_owed i_trial_slides i_trial_struck i_trial_slid i_trial_state_now a_trial_state_snow a_trial_state_path a_trial_state_debt a_trial_owedBy a_rule_things a_rule_stack = some o → (GO p l e 5 s m args below meth c Q E A 8 124 [] [(5, .int o.1)] (WX11_dig E q0 q0_text q0_town q0_weather q0_rule q0_acts q0_real q0_trial q0_round q0_nights q0_before q0_history q0_kept q0_keptHouses q0_shortest q0_tracks q0_tally q0_told q0_town_hold q0_town_below q0_town_hay q0_real_state q0_real_owedBy q0_real_state_snow q0_real_state_path q0_real_state_debt q0_trial_state q0_trial_owedBy q0_trial_state_snow q0_trial_state_path q0_trial_state_debt q0_weather_inches q0_rule_code q0_rule_draft q0_rule_stack q0_rule_things i_toldCount i_town_houses i_real_owed i_real_slides i_real_struck i_real_slid i_real_state_now a_real_state_path o.2.1 o.2.2.1 o.2.2.2.1 o.2.2.2.2.1 o.2.2.2.2.2.1 i_weather_length i_weather_cycle i_rule_length i_rule_drafted o.2.2.2.2.2.2.1 o.2.2.2.2.2.2.2.1 o.2.2.2.2.2.2.2.2.1 o.2.2.2.2.2.2.2.2.2.1 a_real_state_snow a_real_state_debt a_weather_inches a_town_hold a_town_below o.2.2.2.2.2.2.2.2.2.2.1 o.2.2.2.2.2.2.2.2.2.2.2 a_rule_code)) → GO p l e 5 s m args below meth c Q E A 8 69 [] [(0, .ref q0), (1, .int p1), (2, .int p2), (3, .int p3), (4, .int v4), (5, .int v5), (6, .int v6)] (WX11_dig E q0 q0_text q0_town q0_weather q0_rule q0_acts q0_real q0_trial q0_round q0_nights q0_before q0_history q0_kept q0_keptHouses q0_shortest q0_tracks q0_tally q0_told q0_town_hold q0_town_below q0_town_hay q0_real_state q0_real_owedBy q0_real_state_snow q0_real_state_path q0_real_state_debt q0_trial_state q0_trial_owedBy q0_trial_state_snow q0_trial_state_path q0_trial_state_debt q0_weather_inches q0_rule_code q0_rule_draft q0_rule_stack q0_rule_things i_toldCount i_town_houses i_real_owed i_real_slides i_real_struck i_real_slid i_real_state_now a_real_state_path i_trial_owed i_trial_slides i_trial_struck i_trial_slid i_trial_state_now i_weather_length i_weather_cycle i_rule_length i_rule_drafted a_trial_state_snow a_trial_state_path a_trial_state_debt a_trial_owedBy a_real_state_snow a_real_state_debt a_weather_inches a_town_hold a_town_below a_rule_things a_rule_stack a_rule_code) := by
    intro n
    induction n with
    | zero =>
      intro v4 v5 v6 i_trial_owed i_trial_slides i_trial_struck i_trial_slid i_trial_state_now a_trial_state_snow a_trial_state_path a_trial_state_debt a_trial_owedBy a_rule_things a_rule_stack o hf
      have hf : none = some o := hf
      cases hf
    | succ n ih =>
      intro v4 v5 v6 i_trial_owed i_trial_slides i_trial_struck i_trial_slid i_trial_state_now a_trial_state_snow a_trial_state_path a_trial_state_debt a_trial_owedBy a_rule_things a_rule_stack o hf hE
      intro H locs ls hl hP hD hS
      rw [fX11_dig_L69] at hf
      refine lv_iload hx hb dX11_dig_69 (lv_at hl 6 rfl) ?_
      refine lv_sipush (v := 999) hx hb dX11_dig_71 (by decide) ?_
      refine lv_icmp_gt (tgt := 124) hx hb dX11_dig_74 (by decide) (fun c14 => ?_) (fun c14 => ?_)
      · rw [if_pos c14] at hf
        have hf := Option.some.inj hf
        subst hf
        exact hE _ _ _ (lv_sub hl [5] rfl) hP hD hS
      · rw [if_neg c14] at hf
        refine lv_iload hx hb dX11_dig_77 (lv_at hl 5 rfl) ?_
        refine lv_iload hx hb dX11_dig_79 (lv_at hl 4 rfl) ?_
        refine lv_icmp_ge (tgt := 124) hx hb dX11_dig_81 (by decide) (fun c15 => ?_) (fun c15 => ?_)
        · rw [if_pos c15] at hf
          have hf := Option.some.inj hf
          subst hf
          exact hE _ _ _ (lv_sub hl [5] rfl) hP hD hS
        · rw [if_neg c15] at hf
          refine lv_iload hx hb dX11_dig_84 (lv_at hl 5 rfl) ?_
          refine lv_iload hx hb dX11_dig_86 (lv_at hl 4 rfl) ?_
          refine lv_iadd hx hb dX11_dig_88 ?_
          refine lv_iconst (v := 2) hx hb dX11_dig_89 (by decide) ?_
          refine lv_idiv hx hb dX11_dig_90 (by decide) ?_
          refine lv_istore (lv' := [(7, .int ((((v5 + v4)) / 2))), (0, .ref q0), (1, .int p1), (2, .int p2), (3, .int p3), (4, .int v4), (5, .int v5), (6, .int v6)]) hx hb dX11_dig_91 hl (by decide) rfl (fun ls hl => ?_)
          refine lv_aload_n hx hb dX11_dig_93 rfl (lv_at hl 1 rfl) ?_
          refine lv_iload_n hx hb dX11_dig_94 rfl (lv_at hl 2 rfl) ?_
          refine lv_iload hx hb dX11_dig_95 (lv_at hl 0 rfl) ?_
          refine lv_iload_n hx hb dX11_dig_97 rfl (lv_at hl 3 rfl) ?_
          refine lv_iload_n hx hb dX11_dig_98 rfl (lv_at hl 4 rfl) ?_
          obtain ⟨o16, hg17, hf⟩ := bd_some hf
          refine k_VI (As := [.int p1, .int ((((v5 + v4)) / 2)), .int p2, .int p3]) C K_RX11_360 (Nat.le_of_ble_eq_true rfl) (Nat.le_of_ble_eq_true rfl) (kX11_staysWithin l E q0 q0_text q0_town q0_weather q0_rule q0_acts q0_real q0_trial q0_round q0_nights q0_before q0_history q0_kept q0_keptHouses q0_shortest q0_tracks q0_tally q0_told q0_real_state q0_real_owedBy q0_trial_state q0_trial_owedBy q0_trial_state_snow q0_trial_state_path q0_trial_state_debt q0_real_state_snow q0_real_state_path q0_real_state_debt q0_weather_inches q0_town_hold q0_town_below q0_town_hay q0_rule_code q0_rule_draft q0_rule_stack q0_rule_things i_toldCount i_real_owed i_real_slides i_real_struck i_real_slid i_trial_owed i_trial_slides i_trial_struck i_trial_slid i_trial_state_now i_real_state_now a_trial_state_snow a_trial_state_path a_trial_state_debt a_trial_owedBy a_real_state_snow a_real_state_path a_real_state_debt i_weather_length i_weather_cycle i_town_houses i_rule_length i_rule_drafted a_weather_inches a_town_hold a_town_below a_rule_things a_rule_stack a_rule_code p1 ((((v5 + v4)) / 2)) p2 p3 o16.1 o16.2.1 o16.2.2.1 o16.2.2.2.1 o16.2.2.2.2.1 o16.2.2.2.2.2.1 o16.2.2.2.2.2.2.1 o16.2.2.2.2.2.2.2.1 o16.2.2.2.2.2.2.2.2.1 o16.2.2.2.2.2.2.2.2.2.1 o16.2.2.2.2.2.2.2.2.2.2.1 o16.2.2.2.2.2.2.2.2.2.2.2 hg17) [0, 2, 5, 6, 3, 9, 10, 11, 12, 13, 4, 14, 7, 1, 8, 15, 16, 17, 18, 19, 20] rfl rfl rfl (ci := 11) rfl rfl (q0 := 0) rfl hP hD hS hA hl.1 (Nat.le_of_ble_eq_true rfl) rfl dX11_dig_99 (fun H locs hP hD hS => ?_)
          have hP : va_P E.1 classes (WX11_dig E q0 q0_text q0_town q0_weather q0_rule q0_acts q0_real q0_trial q0_round q0_nights q0_before q0_history q0_kept q0_keptHouses q0_shortest q0_tracks q0_tally q0_told q0_town_hold q0_town_below q0_town_hay q0_real_state q0_real_owedBy q0_real_state_snow q0_real_state_path q0_real_state_debt q0_trial_state q0_trial_owedBy q0_trial_state_snow q0_trial_state_path q0_trial_state_debt q0_weather_inches q0_rule_code q0_rule_draft q0_rule_stack q0_rule_things i_toldCount i_town_houses i_real_owed i_real_slides i_real_struck i_real_slid i_real_state_now a_real_state_path o16.2.1 o16.2.2.1 o16.2.2.2.1 o16.2.2.2.2.1 o16.2.2.2.2.2.1 i_weather_length i_weather_cycle i_rule_length i_rule_drafted o16.2.2.2.2.2.2.1 o16.2.2.2.2.2.2.2.1 o16.2.2.2.2.2.2.2.2.1 o16.2.2.2.2.2.2.2.2.2.1 a_real_state_snow a_real_state_debt a_weather_inches a_town_hold a_town_below o16.2.2.2.2.2.2.2.2.2.2.1 o16.2.2.2.2.2.2.2.2.2.2.2 a_rule_code) H := hP
          have hD : va_D A (WX11_dig E q0 q0_text q0_town q0_weather q0_rule q0_acts q0_real q0_trial q0_round q0_nights q0_before q0_history q0_kept q0_keptHouses q0_shortest q0_tracks q0_tally q0_told q0_town_hold q0_town_below q0_town_hay q0_real_state q0_real_owedBy q0_real_state_snow q0_real_state_path q0_real_state_debt q0_trial_state q0_trial_owedBy q0_trial_state_snow q0_trial_state_path q0_trial_state_debt q0_weather_inches q0_rule_code q0_rule_draft q0_rule_stack q0_rule_things i_toldCount i_town_houses i_real_owed i_real_slides i_real_struck i_real_slid i_real_state_now a_real_state_path o16.2.1 o16.2.2.1 o16.2.2.2.1 o16.2.2.2.2.1 o16.2.2.2.2.2.1 i_weather_length i_weather_cycle i_rule_length i_rule_drafted o16.2.2.2.2.2.2.1 o16.2.2.2.2.2.2.2.1 o16.2.2.2.2.2.2.2.2.1 o16.2.2.2.2.2.2.2.2.2.1 a_real_state_snow a_real_state_debt a_weather_inches a_town_hold a_town_below o16.2.2.2.2.2.2.2.2.2.2.1 o16.2.2.2.2.2.2.2.2.2.2.2 a_rule_code) := hD
          refine lv_if_eq (tgt := 112) hx hb dX11_dig_102 (by decide) (fun c18 => ?_) (fun c18 => ?_)
          · rw [if_pos c18] at hf
            refine lv_iload hx hb dX11_dig_112 (lv_at hl 0 rfl) ?_
            refine lv_iconst (v := 1) hx hb dX11_dig_114 (by decide) ?_
            refine lv_iadd hx hb dX11_dig_115 ?_
            refine lv_istore (lv' := [(5, .int ((((((v5 + v4)) / 2)) + 1))), (7, .int ((((v5 + v4)) / 2))), (0, .ref q0), (1, .int p1), (2, .int p2), (3, .int p3), (4, .int v4), (6, .int v6)]) hx hb dX11_dig_116 hl (by decide) rfl (fun ls hl => ?_)
            refine lv_iinc (v := (v6 + 1)) (lv' := [(6, .int ((v6 + 1))), (5, .int ((((((v5 + v4)) / 2)) + 1))), (7, .int ((((v5 + v4)) / 2))), (0, .ref q0), (1, .int p1), (2, .int p2), (3, .int p3), (4, .int v4)]) hx hb dX11_dig_118 hl (k := 7) rfl rfl (by decide) rfl (fun ls hl => ?_)
            refine lv_goto (tgt := 69) hx hb dX11_dig_121 (by decide) ?_
            exact ih v4 ((((((v5 + v4)) / 2)) + 1)) ((v6 + 1)) o16.2.1 o16.2.2.1 o16.2.2.2.1 o16.2.2.2.2.1 o16.2.2.2.2.2.1 o16.2.2.2.2.2.2.1 o16.2.2.2.2.2.2.2.1 o16.2.2.2.2.2.2.2.2.1 o16.2.2.2.2.2.2.2.2.2.1 o16.2.2.2.2.2.2.2.2.2.2.1 o16.2.2.2.2.2.2.2.2.2.2.2 _ hf hE _ _ _ (lv_sub hl [3, 4, 5, 6, 7, 1, 0] rfl) hP hD hS
          · rw [if_neg c18] at hf
            refine lv_iload hx hb dX11_dig_105 (lv_at hl 0 rfl) ?_
            refine lv_istore (lv' := [(4, .int ((((v5 + v4)) / 2))), (7, .int ((((v5 + v4)) / 2))), (0, .ref q0), (1, .int p1), (2, .int p2), (3, .int p3), (5, .int v5), (6, .int v6)]) hx hb dX11_dig_107 hl (by decide) rfl (fun ls hl => ?_)
            refine lv_goto (tgt := 118) hx hb dX11_dig_109 (by decide) ?_
            refine lv_iinc (v := (v6 + 1)) (lv' := [(6, .int ((v6 + 1))), (4, .int ((((v5 + v4)) / 2))), (7, .int ((((v5 + v4)) / 2))), (0, .ref q0), (1, .int p1), (2, .int p2), (3, .int p3), (5, .int v5)]) hx hb dX11_dig_118 hl (k := 7) rfl rfl (by decide) rfl (fun ls hl => ?_)
            refine lv_goto (tgt := 69) hx hb dX11_dig_121 (by decide) ?_
            exact ih ((((v5 + v4)) / 2)) v5 ((v6 + 1)) o16.2.1 o16.2.2.1 o16.2.2.2.1 o16.2.2.2.2.1 o16.2.2.2.2.2.1 o16.2.2.2.2.2.2.1 o16.2.2.2.2.2.2.2.1 o16.2.2.2.2.2.2.2.2.1 o16.2.2.2.2.2.2.2.2.2.1 o16.2.2.2.2.2.2.2.2.2.2.1 o16.2.2.2.2.2.2.2.2.2.2.2 _ hf hE _ _ _ (lv_sub hl [3, 4, 5, 6, 1, 7, 0] rfl) hP hD hS
  intro H locs ls hl hP hD hS
  have hl : lv_has ls 8 [(0, .ref q0), (1, .int p1), (2, .int p2), (3, .int p3)] := hl
  unfold fX11_dig at hf
  refine lv_aload_n hx hb dX11_dig_0 rfl (lv_at hl 0 rfl) ?_
  refine gf_RX11_19 C hP 0 rfl rfl dX11_dig_1 ?_
  refine lv_iload_n hx hb dX11_dig_4 rfl (lv_at hl 1 rfl) ?_
  obtain ⟨o1, hg2, hf⟩ := bd_some hf
  refine k_VI (As := [.int p1]) C K_RX11_139 (Nat.le_of_ble_eq_true rfl) (Nat.le_of_ble_eq_true rfl) (kX7_has l E q0_town q0_town_hold q0_town_below q0_town_hay i_town_houses p1 o1 hg2) [1] rfl rfl rfl (ci := 7) rfl rfl (q0 := 0) rfl hP hD hS hA hl.1 (Nat.le_of_ble_eq_true rfl) rfl dX11_dig_5 (fun H locs hP hD hS => ?_)
  have hP : va_P E.1 classes (WX11_dig E q0 q0_text q0_town q0_weather q0_rule q0_acts q0_real q0_trial q0_round q0_nights q0_before q0_history q0_kept q0_keptHouses q0_shortest q0_tracks q0_tally q0_told q0_town_hold q0_town_below q0_town_hay q0_real_state q0_real_owedBy q0_real_state_snow q0_real_state_path q0_real_state_debt q0_trial_state q0_trial_owedBy q0_trial_state_snow q0_trial_state_path q0_trial_state_debt q0_weather_inches q0_rule_code q0_rule_draft q0_rule_stack q0_rule_things i_toldCount i_town_houses i_real_owed i_real_slides i_real_struck i_real_slid i_real_state_now a_real_state_path i_trial_owed i_trial_slides i_trial_struck i_trial_slid i_trial_state_now i_weather_length i_weather_cycle i_rule_length i_rule_drafted a_trial_state_snow a_trial_state_path a_trial_state_debt a_trial_owedBy a_real_state_snow a_real_state_debt a_weather_inches a_town_hold a_town_below a_rule_things a_rule_stack a_rule_code) H := hP
  have hD : va_D A (WX11_dig E q0 q0_text q0_town q0_weather q0_rule q0_acts q0_real q0_trial q0_round q0_nights q0_before q0_history q0_kept q0_keptHouses q0_shortest q0_tracks q0_tally q0_told q0_town_hold q0_town_below q0_town_hay q0_real_state q0_real_owedBy q0_real_state_snow q0_real_state_path q0_real_state_debt q0_trial_state q0_trial_owedBy q0_trial_state_snow q0_trial_state_path q0_trial_state_debt q0_weather_inches q0_rule_code q0_rule_draft q0_rule_stack q0_rule_things i_toldCount i_town_houses i_real_owed i_real_slides i_real_struck i_real_slid i_real_state_now a_real_state_path i_trial_owed i_trial_slides i_trial_struck i_trial_slid i_trial_state_now i_weather_length i_weather_cycle i_rule_length i_rule_drafted a_trial_state_snow a_trial_state_path a_trial_state_debt a_trial_owedBy a_real_state_snow a_real_state_debt a_weather_inches a_town_hold a_town_below a_rule_things a_rule_stack a_rule_code) := hD
  refine lv_if_eq (tgt := 32) hx hb dX11_dig_8 (by decide) (fun c3 => ?_) (fun c3 => ?_)
  · rw [if_pos c3] at hf
    refine lv_iconst (v := (-1)) hx hb dX11_dig_32 (by decide) ?_
    have hj0 := Option.some.inj hf
    obtain ⟨ha0, hj1⟩ := Prod.mk.inj hj0
    obtain ⟨ha1, hj2⟩ := Prod.mk.inj hj1
    obtain ⟨ha2, hj3⟩ := Prod.mk.inj hj2
    obtain ⟨ha3, hj4⟩ := Prod.mk.inj hj3
    obtain ⟨ha4, hj5⟩ := Prod.mk.inj hj4
    obtain ⟨ha5, hj6⟩ := Prod.mk.inj hj5
    obtain ⟨ha6, hj7⟩ := Prod.mk.inj hj6
    obtain ⟨ha7, hj8⟩ := Prod.mk.inj hj7
    obtain ⟨ha8, hj9⟩ := Prod.mk.inj hj8
    obtain ⟨ha9, hj10⟩ := Prod.mk.inj hj9
    obtain ⟨ha10, hj11⟩ := Prod.mk.inj hj10
    subst ha0
    subst ha1
    subst ha2
    subst ha3
    subst ha4
    subst ha5
    subst ha6
    subst ha7
    subst ha8
    subst ha9
    subst ha10
    subst hj11
    exact hret _ _ _ _ dX11_dig_33 rfl hP hD hS
  · rw [if_neg c3] at hf
    refine lv_iload_n hx hb dX11_dig_11 rfl (lv_at hl 2 rfl) ?_
    refine lv_iconst (v := 0) hx hb dX11_dig_12 (by decide) ?_
    refine lv_sipush (v := 999) hx hb dX11_dig_13 (by decide) ?_
    obtain ⟨o4, hg5, hf⟩ := bd_some hf
    refine k_SI (As := [.int p2, .int 0, .int 999]) C K_RX11_128 (Nat.le_of_ble_eq_true rfl) (Nat.le_of_ble_eq_true rfl) (kX11_isWithin l E p2 0 999 o4 hg5) [] rfl rfl rfl  hP hD hS hA hl.1 (Nat.le_of_ble_eq_true rfl) rfl dX11_dig_16 (fun H locs hP hD hS => ?_)
    have hP : va_P E.1 classes (WX11_dig E q0 q0_text q0_town q0_weather q0_rule q0_acts q0_real q0_trial q0_round q0_nights q0_before q0_history q0_kept q0_keptHouses q0_shortest q0_tracks q0_tally q0_told q0_town_hold q0_town_below q0_town_hay q0_real_state q0_real_owedBy q0_real_state_snow q0_real_state_path q0_real_state_debt q0_trial_state q0_trial_owedBy q0_trial_state_snow q0_trial_state_path q0_trial_state_debt q0_weather_inches q0_rule_code q0_rule_draft q0_rule_stack q0_rule_things i_toldCount i_town_houses i_real_owed i_real_slides i_real_struck i_real_slid i_real_state_now a_real_state_path i_trial_owed i_trial_slides i_trial_struck i_trial_slid i_trial_state_now i_weather_length i_weather_cycle i_rule_length i_rule_drafted a_trial_state_snow a_trial_state_path a_trial_state_debt a_trial_owedBy a_real_state_snow a_real_state_debt a_weather_inches a_town_hold a_town_below a_rule_things a_rule_stack a_rule_code) H := hP
    have hD : va_D A (WX11_dig E q0 q0_text q0_town q0_weather q0_rule q0_acts q0_real q0_trial q0_round q0_nights q0_before q0_history q0_kept q0_keptHouses q0_shortest q0_tracks q0_tally q0_told q0_town_hold q0_town_below q0_town_hay q0_real_state q0_real_owedBy q0_real_state_snow q0_real_state_path q0_real_state_debt q0_trial_state q0_trial_owedBy q0_trial_state_snow q0_trial_state_path q0_trial_state_debt q0_weather_inches q0_rule_code q0_rule_draft q0_rule_stack q0_rule_things i_toldCount i_town_houses i_real_owed i_real_slides i_real_struck i_real_slid i_real_state_now a_real_state_path i_trial_owed i_trial_slides i_trial_struck i_trial_slid i_trial_state_now i_weather_length i_weather_cycle i_rule_length i_rule_drafted a_trial_state_snow a_trial_state_path a_trial_state_debt a_trial_owedBy a_real_state_snow a_real_state_debt a_weather_inches a_town_hold a_town_below a_rule_things a_rule_stack a_rule_code) := hD
    refine lv_if_eq (tgt := 32) hx hb dX11_dig_19 (by decide) (fun c6 => ?_) (fun c6 => ?_)
    · rw [if_pos c6] at hf
      refine lv_iconst (v := (-1)) hx hb dX11_dig_32 (by decide) ?_
      have hj0 := Option.some.inj hf
      obtain ⟨ha0, hj1⟩ := Prod.mk.inj hj0
      obtain ⟨ha1, hj2⟩ := Prod.mk.inj hj1
      obtain ⟨ha2, hj3⟩ := Prod.mk.inj hj2
      obtain ⟨ha3, hj4⟩ := Prod.mk.inj hj3
      obtain ⟨ha4, hj5⟩ := Prod.mk.inj hj4
      obtain ⟨ha5, hj6⟩ := Prod.mk.inj hj5
      obtain ⟨ha6, hj7⟩ := Prod.mk.inj hj6
      obtain ⟨ha7, hj8⟩ := Prod.mk.inj hj7
      obtain ⟨ha8, hj9⟩ := Prod.mk.inj hj8
      obtain ⟨ha9, hj10⟩ := Prod.mk.inj hj9
      obtain ⟨ha10, hj11⟩ := Prod.mk.inj hj10
      subst ha0
      subst ha1
      subst ha2
      subst ha3
      subst ha4
      subst ha5
      subst ha6
      subst ha7
      subst ha8
      subst ha9
      subst ha10
      subst hj11
      exact hret _ _ _ _ dX11_dig_33 rfl hP hD hS
    · rw [if_neg c6] at hf
      refine lv_iload_n hx hb dX11_dig_22 rfl (lv_at hl 3 rfl) ?_
      refine lv_iconst (v := 0) hx hb dX11_dig_23 (by decide) ?_
      refine lv_bipush (v := 60) hx hb dX11_dig_24 (by decide) ?_
      obtain ⟨o7, hg8, hf⟩ := bd_some hf
      refine k_SI (As := [.int p3, .int 0, .int 60]) C K_RX11_128 (Nat.le_of_ble_eq_true rfl) (Nat.le_of_ble_eq_true rfl) (kX11_isWithin l E p3 0 60 o7 hg8) [] rfl rfl rfl  hP hD hS hA hl.1 (Nat.le_of_ble_eq_true rfl) rfl dX11_dig_26 (fun H locs hP hD hS => ?_)
      have hP : va_P E.1 classes (WX11_dig E q0 q0_text q0_town q0_weather q0_rule q0_acts q0_real q0_trial q0_round q0_nights q0_before q0_history q0_kept q0_keptHouses q0_shortest q0_tracks q0_tally q0_told q0_town_hold q0_town_below q0_town_hay q0_real_state q0_real_owedBy q0_real_state_snow q0_real_state_path q0_real_state_debt q0_trial_state q0_trial_owedBy q0_trial_state_snow q0_trial_state_path q0_trial_state_debt q0_weather_inches q0_rule_code q0_rule_draft q0_rule_stack q0_rule_things i_toldCount i_town_houses i_real_owed i_real_slides i_real_struck i_real_slid i_real_state_now a_real_state_path i_trial_owed i_trial_slides i_trial_struck i_trial_slid i_trial_state_now i_weather_length i_weather_cycle i_rule_length i_rule_drafted a_trial_state_snow a_trial_state_path a_trial_state_debt a_trial_owedBy a_real_state_snow a_real_state_debt a_weather_inches a_town_hold a_town_below a_rule_things a_rule_stack a_rule_code) H := hP
      have hD : va_D A (WX11_dig E q0 q0_text q0_town q0_weather q0_rule q0_acts q0_real q0_trial q0_round q0_nights q0_before q0_history q0_kept q0_keptHouses q0_shortest q0_tracks q0_tally q0_told q0_town_hold q0_town_below q0_town_hay q0_real_state q0_real_owedBy q0_real_state_snow q0_real_state_path q0_real_state_debt q0_trial_state q0_trial_owedBy q0_trial_state_snow q0_trial_state_path q0_trial_state_debt q0_weather_inches q0_rule_code q0_rule_draft q0_rule_stack q0_rule_things i_toldCount i_town_houses i_real_owed i_real_slides i_real_struck i_real_slid i_real_state_now a_real_state_path i_trial_owed i_trial_slides i_trial_struck i_trial_slid i_trial_state_now i_weather_length i_weather_cycle i_rule_length i_rule_drafted a_trial_state_snow a_trial_state_path a_trial_state_debt a_trial_owedBy a_real_state_snow a_real_state_debt a_weather_inches a_town_hold a_town_below a_rule_things a_rule_stack a_rule_code) := hD
      refine lv_if_ne (tgt := 34) hx hb dX11_dig_29 (by decide) (fun c9 => ?_) (fun c9 => ?_)
      · rw [if_neg c9] at hf
        refine lv_aload_n hx hb dX11_dig_34 rfl (lv_at hl 0 rfl) ?_
        refine gf_RX11_49 C hP 0 rfl rfl dX11_dig_35 ?_
        refine gf_RX11_148 C hP 2 rfl rfl dX11_dig_38 ?_
        refine gf_RX11_154 C hP 3 rfl rfl dX11_dig_41 ?_
        refine lv_iload_n hx hb dX11_dig_44 rfl (lv_at hl 1 rfl) ?_
        obtain ⟨g10, hf⟩ := gd_some hf
        refine va_iald hx hb C.2.2.2.2.2.1 hP 4 0 rfl rfl (vin_in g10) dX11_dig_45 ?_
        refine lv_istore (lv' := [(4, .int ((a_real_state_path (p1 : Int32).toNatClampNeg))), (0, .ref q0), (1, .int p1), (2, .int p2), (3, .int p3)]) hx hb dX11_dig_46 hl (by decide) rfl (fun ls hl => ?_)
        refine lv_aload_n hx hb dX11_dig_48 rfl (lv_at hl 1 rfl) ?_
        refine lv_iload_n hx hb dX11_dig_49 rfl (lv_at hl 2 rfl) ?_
        refine lv_iload hx hb dX11_dig_50 (lv_at hl 0 rfl) ?_
        refine lv_iload_n hx hb dX11_dig_52 rfl (lv_at hl 3 rfl) ?_
        refine lv_iload_n hx hb dX11_dig_53 rfl (lv_at hl 4 rfl) ?_
        obtain ⟨o11, hg12, hf⟩ := bd_some hf
        refine k_VI (As := [.int p1, .int ((a_real_state_path (p1 : Int32).toNatClampNeg)), .int p2, .int p3]) C K_RX11_360 (Nat.le_of_ble_eq_true rfl) (Nat.le_of_ble_eq_true rfl) (kX11_staysWithin l E q0 q0_text q0_town q0_weather q0_rule q0_acts q0_real q0_trial q0_round q0_nights q0_before q0_history q0_kept q0_keptHouses q0_shortest q0_tracks q0_tally q0_told q0_real_state q0_real_owedBy q0_trial_state q0_trial_owedBy q0_trial_state_snow q0_trial_state_path q0_trial_state_debt q0_real_state_snow q0_real_state_path q0_real_state_debt q0_weather_inches q0_town_hold q0_town_below q0_town_hay q0_rule_code q0_rule_draft q0_rule_stack q0_rule_things i_toldCount i_real_owed i_real_slides i_real_struck i_real_slid i_trial_owed i_trial_slides i_trial_struck i_trial_slid i_trial_state_now i_real_state_now a_trial_state_snow a_trial_state_path a_trial_state_debt a_trial_owedBy a_real_state_snow a_real_state_path a_real_state_debt i_weather_length i_weather_cycle i_town_houses i_rule_length i_rule_drafted a_weather_inches a_town_hold a_town_below a_rule_things a_rule_stack a_rule_code p1 ((a_real_state_path (p1 : Int32).toNatClampNeg)) p2 p3 o11.1 o11.2.1 o11.2.2.1 o11.2.2.2.1 o11.2.2.2.2.1 o11.2.2.2.2.2.1 o11.2.2.2.2.2.2.1 o11.2.2.2.2.2.2.2.1 o11.2.2.2.2.2.2.2.2.1 o11.2.2.2.2.2.2.2.2.2.1 o11.2.2.2.2.2.2.2.2.2.2.1 o11.2.2.2.2.2.2.2.2.2.2.2 hg12) [0, 2, 5, 6, 3, 9, 10, 11, 12, 13, 4, 14, 7, 1, 8, 15, 16, 17, 18, 19, 20] rfl rfl rfl (ci := 11) rfl rfl (q0 := 0) rfl hP hD hS hA hl.1 (Nat.le_of_ble_eq_true rfl) rfl dX11_dig_54 (fun H locs hP hD hS => ?_)
        have hP : va_P E.1 classes (WX11_dig E q0 q0_text q0_town q0_weather q0_rule q0_acts q0_real q0_trial q0_round q0_nights q0_before q0_history q0_kept q0_keptHouses q0_shortest q0_tracks q0_tally q0_told q0_town_hold q0_town_below q0_town_hay q0_real_state q0_real_owedBy q0_real_state_snow q0_real_state_path q0_real_state_debt q0_trial_state q0_trial_owedBy q0_trial_state_snow q0_trial_state_path q0_trial_state_debt q0_weather_inches q0_rule_code q0_rule_draft q0_rule_stack q0_rule_things i_toldCount i_town_houses i_real_owed i_real_slides i_real_struck i_real_slid i_real_state_now a_real_state_path o11.2.1 o11.2.2.1 o11.2.2.2.1 o11.2.2.2.2.1 o11.2.2.2.2.2.1 i_weather_length i_weather_cycle i_rule_length i_rule_drafted o11.2.2.2.2.2.2.1 o11.2.2.2.2.2.2.2.1 o11.2.2.2.2.2.2.2.2.1 o11.2.2.2.2.2.2.2.2.2.1 a_real_state_snow a_real_state_debt a_weather_inches a_town_hold a_town_below o11.2.2.2.2.2.2.2.2.2.2.1 o11.2.2.2.2.2.2.2.2.2.2.2 a_rule_code) H := hP
        have hD : va_D A (WX11_dig E q0 q0_text q0_town q0_weather q0_rule q0_acts q0_real q0_trial q0_round q0_nights q0_before q0_history q0_kept q0_keptHouses q0_shortest q0_tracks q0_tally q0_told q0_town_hold q0_town_below q0_town_hay q0_real_state q0_real_owedBy q0_real_state_snow q0_real_state_path q0_real_state_debt q0_trial_state q0_trial_owedBy q0_trial_state_snow q0_trial_state_path q0_trial_state_debt q0_weather_inches q0_rule_code q0_rule_draft q0_rule_stack q0_rule_things i_toldCount i_town_houses i_real_owed i_real_slides i_real_struck i_real_slid i_real_state_now a_real_state_path o11.2.1 o11.2.2.1 o11.2.2.2.1 o11.2.2.2.2.1 o11.2.2.2.2.2.1 i_weather_length i_weather_cycle i_rule_length i_rule_drafted o11.2.2.2.2.2.2.1 o11.2.2.2.2.2.2.2.1 o11.2.2.2.2.2.2.2.2.1 o11.2.2.2.2.2.2.2.2.2.1 a_real_state_snow a_real_state_debt a_weather_inches a_town_hold a_town_below o11.2.2.2.2.2.2.2.2.2.2.1 o11.2.2.2.2.2.2.2.2.2.2.2 a_rule_code) := hD
        refine lv_if_ne (tgt := 63) hx hb dX11_dig_57 (by decide) (fun c13 => ?_) (fun c13 => ?_)
        · rw [if_neg c13] at hf
          refine lv_iconst (v := 0) hx hb dX11_dig_63 (by decide) ?_
          refine lv_istore (lv' := [(5, .int 0), (4, .int ((a_real_state_path (p1 : Int32).toNatClampNeg))), (0, .ref q0), (1, .int p1), (2, .int p2), (3, .int p3)]) hx hb dX11_dig_64 hl (by decide) rfl (fun ls hl => ?_)
          refine lv_iconst (v := 0) hx hb dX11_dig_66 (by decide) ?_
          refine lv_istore (lv' := [(6, .int 0), (5, .int 0), (4, .int ((a_real_state_path (p1 : Int32).toNatClampNeg))), (0, .ref q0), (1, .int p1), (2, .int p2), (3, .int p3)]) hx hb dX11_dig_67 hl (by decide) rfl (fun ls hl => ?_)
          obtain ⟨o19, hg20, hf⟩ := bd_some hf
          refine L69 FU ((a_real_state_path (p1 : Int32).toNatClampNeg)) 0 0 o11.2.1 o11.2.2.1 o11.2.2.2.1 o11.2.2.2.2.1 o11.2.2.2.2.2.1 o11.2.2.2.2.2.2.1 o11.2.2.2.2.2.2.2.1 o11.2.2.2.2.2.2.2.2.1 o11.2.2.2.2.2.2.2.2.2.1 o11.2.2.2.2.2.2.2.2.2.2.1 o11.2.2.2.2.2.2.2.2.2.2.2 o19 hg20 ?_ _ _ _ (lv_sub hl [3, 4, 5, 6, 2, 1, 0] rfl) hP hD hS
          intro H locs ls hl hP hD hS
          refine lv_iload hx hb dX11_dig_124 (lv_at hl 0 rfl) ?_
          have hj0 := Option.some.inj hf
          obtain ⟨ha0, hj1⟩ := Prod.mk.inj hj0
          obtain ⟨ha1, hj2⟩ := Prod.mk.inj hj1
          obtain ⟨ha2, hj3⟩ := Prod.mk.inj hj2
          obtain ⟨ha3, hj4⟩ := Prod.mk.inj hj3
          obtain ⟨ha4, hj5⟩ := Prod.mk.inj hj4
          obtain ⟨ha5, hj6⟩ := Prod.mk.inj hj5
          obtain ⟨ha6, hj7⟩ := Prod.mk.inj hj6
          obtain ⟨ha7, hj8⟩ := Prod.mk.inj hj7
          obtain ⟨ha8, hj9⟩ := Prod.mk.inj hj8
          obtain ⟨ha9, hj10⟩ := Prod.mk.inj hj9
          obtain ⟨ha10, hj11⟩ := Prod.mk.inj hj10
          subst ha0
          subst ha1
          subst ha2
          subst ha3
          subst ha4
          subst ha5
          subst ha6
          subst ha7
          subst ha8
          subst ha9
          subst ha10
          subst hj11
          exact hret _ _ _ _ dX11_dig_126 rfl hP hD hS
        · rw [if_pos c13] at hf
          refine lv_bipush (v := (-2)) hx hb dX11_dig_60 (by decide) ?_
          have hj0 := Option.some.inj hf
          obtain ⟨ha0, hj1⟩ := Prod.mk.inj hj0
          obtain ⟨ha1, hj2⟩ := Prod.mk.inj hj1
          obtain ⟨ha2, hj3⟩ := Prod.mk.inj hj2
          obtain ⟨ha3, hj4⟩ := Prod.mk.inj hj3
          obtain ⟨ha4, hj5⟩ := Prod.mk.inj hj4
          obtain ⟨ha5, hj6⟩ := Prod.mk.inj hj5
          obtain ⟨ha6, hj7⟩ := Prod.mk.inj hj6
          obtain ⟨ha7, hj8⟩ := Prod.mk.inj hj7
          obtain ⟨ha8, hj9⟩ := Prod.mk.inj hj8
          obtain ⟨ha9, hj10⟩ := Prod.mk.inj hj9
          obtain ⟨ha10, hj11⟩ := Prod.mk.inj hj10
          subst ha0
          subst ha1
          subst ha2
          subst ha3
          subst ha4
          subst ha5
          subst ha6
          subst ha7
          subst ha8
          subst ha9
          subst ha10
          subst hj11
          exact hret _ _ _ _ dX11_dig_62 rfl hP hD hS
      · rw [if_pos c9] at hf
        refine lv_iconst (v := (-1)) hx hb dX11_dig_32 (by decide) ?_
        have hj0 := Option.some.inj hf
        obtain ⟨ha0, hj1⟩ := Prod.mk.inj hj0
        obtain ⟨ha1, hj2⟩ := Prod.mk.inj hj1
        obtain ⟨ha2, hj3⟩ := Prod.mk.inj hj2
        obtain ⟨ha3, hj4⟩ := Prod.mk.inj hj3
        obtain ⟨ha4, hj5⟩ := Prod.mk.inj hj4
        obtain ⟨ha5, hj6⟩ := Prod.mk.inj hj5
        obtain ⟨ha6, hj7⟩ := Prod.mk.inj hj6
        obtain ⟨ha7, hj8⟩ := Prod.mk.inj hj7
        obtain ⟨ha8, hj9⟩ := Prod.mk.inj hj8
        obtain ⟨ha9, hj10⟩ := Prod.mk.inj hj9
        obtain ⟨ha10, hj11⟩ := Prod.mk.inj hj10
        subst ha0
        subst ha1
        subst ha2
        subst ha3
        subst ha4
        subst ha5
        subst ha6
        subst ha7
        subst ha8
        subst ha9
        subst ha10
        subst hj11
        exact hret _ _ _ _ dX11_dig_33 rfl hP hD hS
