theorem r_tswg {p : Program} {l : Launch} {e : Env} {R : Room} {s : State} {m : MethodId} {args : Array Value} {below : List Frame} {meth : Method} {c : Code} {H : Heap} {locs : List Loc} {cells slots : Nat} {Q : State → Prop} {E : ENV} {y : MethodName} {cc : ByteArray} {n : Nat} {r : Option FieldType} {pc : Nat} {ls : Array Slot} {rest : List Value} {A : Nat → Prop} (C : Cx E A y cc n r p s m args meth c) {dflt lo hi : Int} {offs : Array Int} {len : Nat} {x : Int32} {off : Int} {tgt : Nat} (hdg : decode cc pc = .ok (.tableswitch dflt lo hi offs, len)) (v : Int32) (e0 : x = v) (h1 : ¬ v.toInt < lo) (h2 : ¬ hi < v.toInt) (ho : offs[(v.toInt - lo).toNat]? = some off) (ht : (pc : Int) + off = (tgt : Int))
    (k : W p l e R s m args below meth c H locs cells slots Q (F0 m tgt ls rest)) : W p l e R s m args below meth c H locs cells slots Q (F0 m pc ls (.int x :: rest)) := by
  subst e0
  exact lv_tableIn C.1 C.2.1 hdg h1 h2 ho ht k

set_option maxHeartbeats 4000000 in
set_option maxRecDepth 20000 in
theorem kX11_of_T (l : Launch) (hlt : l.stackTraces = false) (E : ENV) (q0 : Nat) (q0_text : Nat) (q0_town : Nat) (q0_weather : Nat) (q0_rule : Nat) (q0_acts : Nat) (q0_real : Nat) (q0_trial : Nat) (q0_round : Nat) (q0_nights : Nat) (q0_before : Nat) (q0_history : Nat) (q0_kept : Nat) (q0_keptHouses : Nat) (q0_shortest : Nat) (q0_tracks : Nat) (q0_tally : Nat) (q0_told : Nat) (q0_town_hold : Nat) (q0_town_below : Nat) (q0_town_hay : Nat) (q0_real_state : Nat) (q0_real_owedBy : Nat) (q0_real_state_snow : Nat) (q0_real_state_path : Nat) (q0_real_state_debt : Nat) (i_toldCount : Int32) (i_town_houses : Int32) (i_real_owed : Int32) (i_real_slides : Int32) (i_real_struck : Int32) (i_real_slid : Int32) (i_real_state_now : Int32) (a_real_state_debt : Nat → Int32) (a_town_hay : Nat → Int32) (a_town_below : Nat → Int32) (a_real_state_path : Nat → Int32) (a_real_state_snow : Nat → Int32) (a_town_hold : Nat → Int32) (p1 : Int32) (p2 : Int32) (hf : fX11_of_T i_town_houses p1 p2 = some ()) : CT l E yX11_of cX11_of 3 (some .int) 6 [.ref q0, .int p1, .int p2] (WX11_of E q0 q0_text q0_town q0_weather q0_rule q0_acts q0_real q0_trial q0_round q0_nights q0_before q0_history q0_kept q0_keptHouses q0_shortest q0_tracks q0_tally q0_told q0_town_hold q0_town_below q0_town_hay q0_real_state q0_real_owedBy q0_real_state_snow q0_real_state_path q0_real_state_debt i_toldCount i_town_houses i_real_owed i_real_slides i_real_struck i_real_slid i_real_state_now a_real_state_debt a_town_hay a_town_below a_real_state_path a_real_state_snow a_town_hold) := by
  refine begT hlt (by decide) (Nat.le_of_ble_eq_true rfl) ?_
  intro p e s m args below meth c A Q ls C hA hthr hl hP hD hS
  have hx := C.1
  have hb := C.2.1
  have hl : lv_has ls 3 [(0, .ref q0), (1, .int p1), (2, .int p2)] := hl
  unfold fX11_of_T at hf
  refine lv_aload_n hx hb dX11_of_0 rfl (lv_at hl 0 rfl) ?_
  refine gf_RX11_19 C hP 0 rfl rfl dX11_of_1 ?_
  refine lv_iload_n hx hb dX11_of_4 rfl (lv_at hl 1 rfl) ?_
  obtain ⟨o1, hg2, hf⟩ := bd_some hf
  refine k_VIg (As := [.int p1]) C K_RX11_139 ⟨Nat.le_of_ble_eq_true rfl, Nat.le_of_ble_eq_true rfl⟩ (Nat.zero_le _) (Nat.zero_le _) (kX7_has l E q0_town q0_town_hold q0_town_below q0_town_hay i_town_houses p1 o1 hg2) [1] rfl rfl rfl (ci := 7) rfl rfl (q0 := 0) rfl hP hD hS hA hl.1 (Nat.le_of_ble_eq_true rfl) rfl dX11_of_5 (fun H locs hP hD hS => ?_)
  have hP : va_P E.1 classes (WX11_of E q0 q0_text q0_town q0_weather q0_rule q0_acts q0_real q0_trial q0_round q0_nights q0_before q0_history q0_kept q0_keptHouses q0_shortest q0_tracks q0_tally q0_told q0_town_hold q0_town_below q0_town_hay q0_real_state q0_real_owedBy q0_real_state_snow q0_real_state_path q0_real_state_debt i_toldCount i_town_houses i_real_owed i_real_slides i_real_struck i_real_slid i_real_state_now a_real_state_debt a_town_hay a_town_below a_real_state_path a_real_state_snow a_town_hold) H := hP
  have hD : va_D A (WX11_of E q0 q0_text q0_town q0_weather q0_rule q0_acts q0_real q0_trial q0_round q0_nights q0_before q0_history q0_kept q0_keptHouses q0_shortest q0_tracks q0_tally q0_told q0_town_hold q0_town_below q0_town_hay q0_real_state q0_real_owedBy q0_real_state_snow q0_real_state_path q0_real_state_debt i_toldCount i_town_houses i_real_owed i_real_slides i_real_struck i_real_slid i_real_state_now a_real_state_debt a_town_hay a_town_below a_real_state_path a_real_state_snow a_town_hold) := hD
  refine lv_if_ne (tgt := 19) hx hb dX11_of_8 (by decide) (fun c3 => ?_) (fun c3 => ?_)
  · rw [if_neg c3] at hf
    refine lv_iload_n hx hb dX11_of_19 rfl (lv_at hl 2 rfl) ?_
    by_cases c4 : p2 = 0
    · rw [if_pos c4] at hf
      refine r_tswg C dX11_of_20 0 c4 (by decide) (by decide) (off := 52) (by decide) (tgt := 72) (by decide) ?_
      cases hf
    · rw [if_neg c4] at hf
      by_cases c5 : p2 = 1
      · rw [if_pos c5] at hf
        refine r_tswg C dX11_of_20 1 c5 (by decide) (by decide) (off := 62) (by decide) (tgt := 82) (by decide) ?_
        cases hf
      · rw [if_neg c5] at hf
        by_cases c6 : p2 = 2
        · rw [if_pos c6] at hf
          refine r_tswg C dX11_of_20 2 c6 (by decide) (by decide) (off := 77) (by decide) (tgt := 97) (by decide) ?_
          cases hf
        · rw [if_neg c6] at hf
          by_cases c7 : p2 = 3
          · rw [if_pos c7] at hf
            refine r_tswg C dX11_of_20 3 c7 (by decide) (by decide) (off := 94) (by decide) (tgt := 114) (by decide) ?_
            cases hf
          · rw [if_neg c7] at hf
            by_cases c8 : p2 = 4
            · rw [if_pos c8] at hf
              refine r_tswg C dX11_of_20 4 c8 (by decide) (by decide) (off := 107) (by decide) (tgt := 127) (by decide) ?_
              cases hf
            · rw [if_neg c8] at hf
              by_cases c9 : p2 = 5
              · rw [if_pos c9] at hf
                refine r_tswg C dX11_of_20 5 c9 (by decide) (by decide) (off := 119) (by decide) (tgt := 139) (by decide) ?_
                cases hf
              · rw [if_neg c9] at hf
                by_cases c10 : p2 = 6
                · rw [if_pos c10] at hf
                  refine r_tswg C dX11_of_20 6 c10 (by decide) (by decide) (off := 133) (by decide) (tgt := 153) (by decide) ?_
                  cases hf
                · rw [if_neg c10] at hf
                  by_cases c11 : p2 = 7
                  · rw [if_pos c11] at hf
                    refine r_tswg C dX11_of_20 7 c11 (by decide) (by decide) (off := 143) (by decide) (tgt := 163) (by decide) ?_
                    cases hf
                  · rw [if_neg c11] at hf
                    by_cases c12 : p2 = 8
                    · rw [if_pos c12] at hf
                      refine r_tswg C dX11_of_20 8 c12 (by decide) (by decide) (off := 155) (by decide) (tgt := 175) (by decide) ?_
                      cases hf
                    · rw [if_neg c12] at hf
                      have hc4 : ¬ (p2 : Int32).toInt = 0 := toInt_ne c4
                      have hc5 : ¬ (p2 : Int32).toInt = 1 := toInt_ne c5
                      have hc6 : ¬ (p2 : Int32).toInt = 2 := toInt_ne c6
                      have hc7 : ¬ (p2 : Int32).toInt = 3 := toInt_ne c7
                      have hc8 : ¬ (p2 : Int32).toInt = 4 := toInt_ne c8
                      have hc9 : ¬ (p2 : Int32).toInt = 5 := toInt_ne c9
                      have hc10 : ¬ (p2 : Int32).toInt = 6 := toInt_ne c10
                      have hc11 : ¬ (p2 : Int32).toInt = 7 := toInt_ne c11
                      have hc12 : ¬ (p2 : Int32).toInt = 8 := toInt_ne c12
                      refine lv_tableOut hx hb dX11_of_20 (by omega) (tgt := 187) (by decide) ?_
                      exact hthr _ _ _ _ _ hl.1 (Nat.le_of_ble_eq_true rfl) dX11_of_187 dX11_of_190 dX11_of_191 dX11_of_194 hP hD hS
  · rw [if_pos c3] at hf
    exact hthr _ _ _ _ _ hl.1 (Nat.le_of_ble_eq_true rfl) dX11_of_11 dX11_of_14 dX11_of_15 dX11_of_18 hP hD hS

set_option maxHeartbeats 4000000 in
set_option maxRecDepth 20000 in
theorem kX11_net_T (l : Launch) (hlt : l.stackTraces = false) (E : ENV) (q0 : Nat) (q0_text : Nat) (q0_town : Nat) (q0_weather : Nat) (q0_rule : Nat) (q0_acts : Nat) (q0_real : Nat) (q0_trial : Nat) (q0_round : Nat) (q0_nights : Nat) (q0_before : Nat) (q0_history : Nat) (q0_kept : Nat) (q0_keptHouses : Nat) (q0_shortest : Nat) (q0_tracks : Nat) (q0_tally : Nat) (q0_told : Nat) (q0_town_hold : Nat) (q0_town_below : Nat) (q0_town_hay : Nat) (q0_real_state : Nat) (q0_real_owedBy : Nat) (q0_real_state_snow : Nat) (q0_real_state_path : Nat) (q0_real_state_debt : Nat) (i_toldCount : Int32) (i_town_houses : Int32) (i_real_owed : Int32) (i_real_slides : Int32) (i_real_struck : Int32) (i_real_slid : Int32) (i_real_state_now : Int32) (a_real_state_debt : Nat → Int32) (p1 : Int32) (hf : fX11_net_T i_town_houses p1 = some ()) : CT l E yX11_net cX11_net 2 (some .int) 6 [.ref q0, .int p1] (WX11_net E q0 q0_text q0_town q0_weather q0_rule q0_acts q0_real q0_trial q0_round q0_nights q0_before q0_history q0_kept q0_keptHouses q0_shortest q0_tracks q0_tally q0_told q0_town_hold q0_town_below q0_town_hay q0_real_state q0_real_owedBy q0_real_state_snow q0_real_state_path q0_real_state_debt i_toldCount i_town_houses i_real_owed i_real_slides i_real_struck i_real_slid i_real_state_now a_real_state_debt) := by
  refine begT hlt (by decide) (Nat.le_of_ble_eq_true rfl) ?_
  intro p e s m args below meth c A Q ls C hA hthr hl hP hD hS
  have hx := C.1
  have hb := C.2.1
  have hl : lv_has ls 2 [(0, .ref q0), (1, .int p1)] := hl
  unfold fX11_net_T at hf
  refine lv_aload_n hx hb dX11_net_0 rfl (lv_at hl 0 rfl) ?_
  refine gf_RX11_19 C hP 0 rfl rfl dX11_net_1 ?_
  refine lv_iload_n hx hb dX11_net_4 rfl (lv_at hl 1 rfl) ?_
  obtain ⟨o1, hg2, hf⟩ := bd_some hf
  refine k_VIg (As := [.int p1]) C K_RX11_139 ⟨Nat.le_of_ble_eq_true rfl, Nat.le_of_ble_eq_true rfl⟩ (Nat.zero_le _) (Nat.zero_le _) (kX7_has l E q0_town q0_town_hold q0_town_below q0_town_hay i_town_houses p1 o1 hg2) [1] rfl rfl rfl (ci := 7) rfl rfl (q0 := 0) rfl hP hD hS hA hl.1 (Nat.le_of_ble_eq_true rfl) rfl dX11_net_5 (fun H locs hP hD hS => ?_)
  have hP : va_P E.1 classes (WX11_net E q0 q0_text q0_town q0_weather q0_rule q0_acts q0_real q0_trial q0_round q0_nights q0_before q0_history q0_kept q0_keptHouses q0_shortest q0_tracks q0_tally q0_told q0_town_hold q0_town_below q0_town_hay q0_real_state q0_real_owedBy q0_real_state_snow q0_real_state_path q0_real_state_debt i_toldCount i_town_houses i_real_owed i_real_slides i_real_struck i_real_slid i_real_state_now a_real_state_debt) H := hP
  have hD : va_D A (WX11_net E q0 q0_text q0_town q0_weather q0_rule q0_acts q0_real q0_trial q0_round q0_nights q0_before q0_history q0_kept q0_keptHouses q0_shortest q0_tracks q0_tally q0_told q0_town_hold q0_town_below q0_town_hay q0_real_state q0_real_owedBy q0_real_state_snow q0_real_state_path q0_real_state_debt i_toldCount i_town_houses i_real_owed i_real_slides i_real_struck i_real_slid i_real_state_now a_real_state_debt) := hD
  refine lv_if_ne (tgt := 19) hx hb dX11_net_8 (by decide) (fun c3 => ?_) (fun c3 => ?_)
  · rw [if_neg c3] at hf
    cases hf
  · rw [if_pos c3] at hf
    exact hthr _ _ _ _ _ hl.1 (Nat.le_of_ble_eq_true rfl) dX11_net_11 dX11_net_14 dX11_net_15 dX11_net_18 hP hD hS

set_option maxHeartbeats 4000000 in
set_option maxRecDepth 20000 in
theorem kX11_bare_T (l : Launch) (hlt : l.stackTraces = false) (E : ENV) (q0 : Nat) (q0_text : Nat) (q0_town : Nat) (q0_weather : Nat) (q0_rule : Nat) (q0_acts : Nat) (q0_real : Nat) (q0_trial : Nat) (q0_round : Nat) (q0_nights : Nat) (q0_before : Nat) (q0_history : Nat) (q0_kept : Nat) (q0_keptHouses : Nat) (q0_shortest : Nat) (q0_tracks : Nat) (q0_tally : Nat) (q0_told : Nat) (q0_town_hold : Nat) (q0_town_below : Nat) (q0_town_hay : Nat) (q0_real_state : Nat) (q0_real_owedBy : Nat) (q0_trial_state : Nat) (q0_trial_owedBy : Nat) (q0_trial_state_snow : Nat) (q0_trial_state_path : Nat) (q0_trial_state_debt : Nat) (q0_weather_inches : Nat) (q0_rule_code : Nat) (q0_rule_draft : Nat) (q0_rule_stack : Nat) (q0_rule_things : Nat) (q0_real_state_snow : Nat) (q0_real_state_path : Nat) (q0_real_state_debt : Nat) (i_toldCount : Int32) (i_town_houses : Int32) (i_real_owed : Int32) (i_real_slides : Int32) (i_real_struck : Int32) (i_real_slid : Int32) (i_trial_owed : Int32) (i_trial_slides : Int32) (i_trial_struck : Int32) (i_trial_slid : Int32) (i_trial_state_now : Int32) (i_weather_length : Int32) (i_weather_cycle : Int32) (i_rule_length : Int32) (i_rule_drafted : Int32) (i_real_state_now : Int32) (a_trial_state_snow : Nat → Int32) (a_trial_state_path : Nat → Int32) (a_trial_state_debt : Nat → Int32) (a_trial_owedBy : Nat → Int32) (a_weather_inches : Nat → Int32) (a_town_hold : Nat → Int32) (a_town_below : Nat → Int32) (a_rule_things : Nat → Int32) (a_rule_stack : Nat → Int32) (a_rule_code : Nat → Int32) (a_real_state_snow : Nat → Int32) (a_real_state_path : Nat → Int32) (a_real_state_debt : Nat → Int32) (p1 : Int32) (p2 : Int32) (hf : fX11_bare_T i_town_houses p1 p2 = some ()) : CT l E yX11_bare cX11_bare 4 (some .int) 6 [.ref q0, .int p1, .int p2] (WX11_bare E q0 q0_text q0_town q0_weather q0_rule q0_acts q0_real q0_trial q0_round q0_nights q0_before q0_history q0_kept q0_keptHouses q0_shortest q0_tracks q0_tally q0_told q0_town_hold q0_town_below q0_town_hay q0_real_state q0_real_owedBy q0_trial_state q0_trial_owedBy q0_trial_state_snow q0_trial_state_path q0_trial_state_debt q0_weather_inches q0_rule_code q0_rule_draft q0_rule_stack q0_rule_things q0_real_state_snow q0_real_state_path q0_real_state_debt i_toldCount i_town_houses i_real_owed i_real_slides i_real_struck i_real_slid i_trial_owed i_trial_slides i_trial_struck i_trial_slid i_trial_state_now i_weather_length i_weather_cycle i_rule_length i_rule_drafted i_real_state_now a_trial_state_snow a_trial_state_path a_trial_state_debt a_trial_owedBy a_weather_inches a_town_hold a_town_below a_rule_things a_rule_stack a_rule_code a_real_state_snow a_real_state_path a_real_state_debt) := by
  refine begT hlt (by decide) (Nat.le_of_ble_eq_true rfl) ?_
  intro p e s m args below meth c A Q ls C hA hthr hl hP hD hS
  have hx := C.1
  have hb := C.2.1
  have hl : lv_has ls 4 [(0, .ref q0), (1, .int p1), (2, .int p2)] := hl
  unfold fX11_bare_T at hf
  refine lv_aload_n hx hb dX11_bare_0 rfl (lv_at hl 0 rfl) ?_
  refine gf_RX11_19 C hP 0 rfl rfl dX11_bare_1 ?_
  refine lv_iload_n hx hb dX11_bare_4 rfl (lv_at hl 1 rfl) ?_
  obtain ⟨o1, hg2, hf⟩ := bd_some hf
  refine k_VIg (As := [.int p1]) C K_RX11_139 ⟨Nat.le_of_ble_eq_true rfl, Nat.le_of_ble_eq_true rfl⟩ (Nat.zero_le _) (Nat.zero_le _) (kX7_has l E q0_town q0_town_hold q0_town_below q0_town_hay i_town_houses p1 o1 hg2) [1] rfl rfl rfl (ci := 7) rfl rfl (q0 := 0) rfl hP hD hS hA hl.1 (Nat.le_of_ble_eq_true rfl) rfl dX11_bare_5 (fun H locs hP hD hS => ?_)
  have hP : va_P E.1 classes (WX11_bare E q0 q0_text q0_town q0_weather q0_rule q0_acts q0_real q0_trial q0_round q0_nights q0_before q0_history q0_kept q0_keptHouses q0_shortest q0_tracks q0_tally q0_told q0_town_hold q0_town_below q0_town_hay q0_real_state q0_real_owedBy q0_trial_state q0_trial_owedBy q0_trial_state_snow q0_trial_state_path q0_trial_state_debt q0_weather_inches q0_rule_code q0_rule_draft q0_rule_stack q0_rule_things q0_real_state_snow q0_real_state_path q0_real_state_debt i_toldCount i_town_houses i_real_owed i_real_slides i_real_struck i_real_slid i_trial_owed i_trial_slides i_trial_struck i_trial_slid i_trial_state_now i_weather_length i_weather_cycle i_rule_length i_rule_drafted i_real_state_now a_trial_state_snow a_trial_state_path a_trial_state_debt a_trial_owedBy a_weather_inches a_town_hold a_town_below a_rule_things a_rule_stack a_rule_code a_real_state_snow a_real_state_path a_real_state_debt) H := hP
  have hD : va_D A (WX11_bare E q0 q0_text q0_town q0_weather q0_rule q0_acts q0_real q0_trial q0_round q0_nights q0_before q0_history q0_kept q0_keptHouses q0_shortest q0_tracks q0_tally q0_told q0_town_hold q0_town_below q0_town_hay q0_real_state q0_real_owedBy q0_trial_state q0_trial_owedBy q0_trial_state_snow q0_trial_state_path q0_trial_state_debt q0_weather_inches q0_rule_code q0_rule_draft q0_rule_stack q0_rule_things q0_real_state_snow q0_real_state_path q0_real_state_debt i_toldCount i_town_houses i_real_owed i_real_slides i_real_struck i_real_slid i_trial_owed i_trial_slides i_trial_struck i_trial_slid i_trial_state_now i_weather_length i_weather_cycle i_rule_length i_rule_drafted i_real_state_now a_trial_state_snow a_trial_state_path a_trial_state_debt a_trial_owedBy a_weather_inches a_town_hold a_town_below a_rule_things a_rule_stack a_rule_code a_real_state_snow a_real_state_path a_real_state_debt) := hD
  refine lv_if_eq (tgt := 21) hx hb dX11_bare_8 (by decide) (fun c3 => ?_) (fun c3 => ?_)
  · rw [if_pos c3] at hf
    exact hthr _ _ _ _ _ hl.1 (Nat.le_of_ble_eq_true rfl) dX11_bare_21 dX11_bare_24 dX11_bare_25 dX11_bare_28 hP hD hS
  · rw [if_neg c3] at hf
    refine lv_iload_n hx hb dX11_bare_11 rfl (lv_at hl 2 rfl) ?_
    refine lv_iconst (v := 0) hx hb dX11_bare_12 (by decide) ?_
    refine lv_bipush (v := 60) hx hb dX11_bare_13 (by decide) ?_
    obtain ⟨o4, hg5, hf⟩ := bd_some hf
    refine k_SIg (As := [.int p2, .int 0, .int 60]) C K_RX11_128 ⟨Nat.le_of_ble_eq_true rfl, Nat.le_of_ble_eq_true rfl⟩ (Nat.zero_le _) (Nat.zero_le _) (kX11_isWithin l E p2 0 60 o4 hg5) [] rfl rfl rfl  hP hD hS hA hl.1 (Nat.le_of_ble_eq_true rfl) rfl dX11_bare_15 (fun H locs hP hD hS => ?_)
    have hP : va_P E.1 classes (WX11_bare E q0 q0_text q0_town q0_weather q0_rule q0_acts q0_real q0_trial q0_round q0_nights q0_before q0_history q0_kept q0_keptHouses q0_shortest q0_tracks q0_tally q0_told q0_town_hold q0_town_below q0_town_hay q0_real_state q0_real_owedBy q0_trial_state q0_trial_owedBy q0_trial_state_snow q0_trial_state_path q0_trial_state_debt q0_weather_inches q0_rule_code q0_rule_draft q0_rule_stack q0_rule_things q0_real_state_snow q0_real_state_path q0_real_state_debt i_toldCount i_town_houses i_real_owed i_real_slides i_real_struck i_real_slid i_trial_owed i_trial_slides i_trial_struck i_trial_slid i_trial_state_now i_weather_length i_weather_cycle i_rule_length i_rule_drafted i_real_state_now a_trial_state_snow a_trial_state_path a_trial_state_debt a_trial_owedBy a_weather_inches a_town_hold a_town_below a_rule_things a_rule_stack a_rule_code a_real_state_snow a_real_state_path a_real_state_debt) H := hP
    have hD : va_D A (WX11_bare E q0 q0_text q0_town q0_weather q0_rule q0_acts q0_real q0_trial q0_round q0_nights q0_before q0_history q0_kept q0_keptHouses q0_shortest q0_tracks q0_tally q0_told q0_town_hold q0_town_below q0_town_hay q0_real_state q0_real_owedBy q0_trial_state q0_trial_owedBy q0_trial_state_snow q0_trial_state_path q0_trial_state_debt q0_weather_inches q0_rule_code q0_rule_draft q0_rule_stack q0_rule_things q0_real_state_snow q0_real_state_path q0_real_state_debt i_toldCount i_town_houses i_real_owed i_real_slides i_real_struck i_real_slid i_trial_owed i_trial_slides i_trial_struck i_trial_slid i_trial_state_now i_weather_length i_weather_cycle i_rule_length i_rule_drafted i_real_state_now a_trial_state_snow a_trial_state_path a_trial_state_debt a_trial_owedBy a_weather_inches a_town_hold a_town_below a_rule_things a_rule_stack a_rule_code a_real_state_snow a_real_state_path a_real_state_debt) := hD
    refine lv_if_ne (tgt := 29) hx hb dX11_bare_18 (by decide) (fun c6 => ?_) (fun c6 => ?_)
    · rw [if_neg c6] at hf
      cases hf
    · rw [if_pos c6] at hf
      exact hthr _ _ _ _ _ hl.1 (Nat.le_of_ble_eq_true rfl) dX11_bare_21 dX11_bare_24 dX11_bare_25 dX11_bare_28 hP hD hS

set_option maxHeartbeats 4000000 in
set_option maxRecDepth 20000 in
theorem kX11_premium_T (l : Launch) (hlt : l.stackTraces = false) (E : ENV) (q0 : Nat) (q0_text : Nat) (q0_town : Nat) (q0_weather : Nat) (q0_rule : Nat) (q0_acts : Nat) (q0_real : Nat) (q0_trial : Nat) (q0_round : Nat) (q0_nights : Nat) (q0_before : Nat) (q0_history : Nat) (q0_kept : Nat) (q0_keptHouses : Nat) (q0_shortest : Nat) (q0_tracks : Nat) (q0_tally : Nat) (q0_told : Nat) (q0_town_hold : Nat) (q0_town_below : Nat) (q0_town_hay : Nat) (q0_real_state : Nat) (q0_real_owedBy : Nat) (q0_trial_state : Nat) (q0_trial_owedBy : Nat) (q0_trial_state_snow : Nat) (q0_trial_state_path : Nat) (q0_trial_state_debt : Nat) (q0_weather_inches : Nat) (q0_rule_code : Nat) (q0_rule_draft : Nat) (q0_rule_stack : Nat) (q0_rule_things : Nat) (q0_real_state_snow : Nat) (q0_real_state_path : Nat) (q0_real_state_debt : Nat) (i_toldCount : Int32) (i_town_houses : Int32) (i_real_owed : Int32) (i_real_slides : Int32) (i_real_struck : Int32) (i_real_slid : Int32) (i_trial_owed : Int32) (i_trial_slides : Int32) (i_trial_struck : Int32) (i_trial_slid : Int32) (i_trial_state_now : Int32) (i_weather_length : Int32) (i_weather_cycle : Int32) (i_rule_length : Int32) (i_rule_drafted : Int32) (i_real_state_now : Int32) (a_trial_state_snow : Nat → Int32) (a_trial_state_path : Nat → Int32) (a_trial_state_debt : Nat → Int32) (a_trial_owedBy : Nat → Int32) (a_weather_inches : Nat → Int32) (a_town_hold : Nat → Int32) (a_town_below : Nat → Int32) (a_rule_things : Nat → Int32) (a_rule_stack : Nat → Int32) (a_rule_code : Nat → Int32) (a_real_state_snow : Nat → Int32) (a_real_state_path : Nat → Int32) (a_real_state_debt : Nat → Int32) (a_told : Nat → Int32) (p1 : Int32) (hf : fX11_premium_T i_town_houses p1 = some ()) : CT l E yX11_premium cX11_premium 5 (some .int) 6 [.ref q0, .int p1] (WX11_premium E q0 q0_text q0_town q0_weather q0_rule q0_acts q0_real q0_trial q0_round q0_nights q0_before q0_history q0_kept q0_keptHouses q0_shortest q0_tracks q0_tally q0_told q0_town_hold q0_town_below q0_town_hay q0_real_state q0_real_owedBy q0_trial_state q0_trial_owedBy q0_trial_state_snow q0_trial_state_path q0_trial_state_debt q0_weather_inches q0_rule_code q0_rule_draft q0_rule_stack q0_rule_things q0_real_state_snow q0_real_state_path q0_real_state_debt i_toldCount i_town_houses i_real_owed i_real_slides i_real_struck i_real_slid i_trial_owed i_trial_slides i_trial_struck i_trial_slid i_trial_state_now i_weather_length i_weather_cycle i_rule_length i_rule_drafted i_real_state_now a_trial_state_snow a_trial_state_path a_trial_state_debt a_trial_owedBy a_weather_inches a_town_hold a_town_below a_rule_things a_rule_stack a_rule_code a_real_state_snow a_real_state_path a_real_state_debt a_told) := by
  refine begT hlt (by decide) (Nat.le_of_ble_eq_true rfl) ?_
  intro p e s m args below meth c A Q ls C hA hthr hl hP hD hS
  have hx := C.1
  have hb := C.2.1
  have hl : lv_has ls 5 [(0, .ref q0), (1, .int p1)] := hl
  unfold fX11_premium_T at hf
  refine lv_aload_n hx hb dX11_premium_0 rfl (lv_at hl 0 rfl) ?_
  refine gf_RX11_19 C hP 0 rfl rfl dX11_premium_1 ?_
  refine gf_RX11_179 C hP 1 rfl rfl dX11_premium_4 ?_
  refine lv_istore_n (lv' := [(2, .int i_town_houses), (0, .ref q0), (1, .int p1)]) hx hb dX11_premium_7 rfl hl (by decide) rfl (fun ls hl => ?_)
  refine lv_iload_n hx hb dX11_premium_8 rfl (lv_at hl 0 rfl) ?_
  refine lv_if_eq (tgt := 22) hx hb dX11_premium_9 (by decide) (fun c1 => ?_) (fun c1 => ?_)
  · rw [if_pos c1] at hf
    exact hthr _ _ _ _ _ hl.1 (Nat.le_of_ble_eq_true rfl) dX11_premium_22 dX11_premium_25 dX11_premium_26 dX11_premium_29 hP hD hS
  · rw [if_neg c1] at hf
    refine lv_iload_n hx hb dX11_premium_12 rfl (lv_at hl 2 rfl) ?_
    refine lv_iconst (v := 0) hx hb dX11_premium_13 (by decide) ?_
    refine lv_bipush (v := 60) hx hb dX11_premium_14 (by decide) ?_
    obtain ⟨o2, hg3, hf⟩ := bd_some hf
    refine k_SIg (As := [.int p1, .int 0, .int 60]) C K_RX11_128 ⟨Nat.le_of_ble_eq_true rfl, Nat.le_of_ble_eq_true rfl⟩ (Nat.zero_le _) (Nat.zero_le _) (kX11_isWithin l E p1 0 60 o2 hg3) [] rfl rfl rfl  hP hD hS hA hl.1 (Nat.le_of_ble_eq_true rfl) rfl dX11_premium_16 (fun H locs hP hD hS => ?_)
    have hP : va_P E.1 classes (WX11_premium E q0 q0_text q0_town q0_weather q0_rule q0_acts q0_real q0_trial q0_round q0_nights q0_before q0_history q0_kept q0_keptHouses q0_shortest q0_tracks q0_tally q0_told q0_town_hold q0_town_below q0_town_hay q0_real_state q0_real_owedBy q0_trial_state q0_trial_owedBy q0_trial_state_snow q0_trial_state_path q0_trial_state_debt q0_weather_inches q0_rule_code q0_rule_draft q0_rule_stack q0_rule_things q0_real_state_snow q0_real_state_path q0_real_state_debt i_toldCount i_town_houses i_real_owed i_real_slides i_real_struck i_real_slid i_trial_owed i_trial_slides i_trial_struck i_trial_slid i_trial_state_now i_weather_length i_weather_cycle i_rule_length i_rule_drafted i_real_state_now a_trial_state_snow a_trial_state_path a_trial_state_debt a_trial_owedBy a_weather_inches a_town_hold a_town_below a_rule_things a_rule_stack a_rule_code a_real_state_snow a_real_state_path a_real_state_debt a_told) H := hP
    have hD : va_D A (WX11_premium E q0 q0_text q0_town q0_weather q0_rule q0_acts q0_real q0_trial q0_round q0_nights q0_before q0_history q0_kept q0_keptHouses q0_shortest q0_tracks q0_tally q0_told q0_town_hold q0_town_below q0_town_hay q0_real_state q0_real_owedBy q0_trial_state q0_trial_owedBy q0_trial_state_snow q0_trial_state_path q0_trial_state_debt q0_weather_inches q0_rule_code q0_rule_draft q0_rule_stack q0_rule_things q0_real_state_snow q0_real_state_path q0_real_state_debt i_toldCount i_town_houses i_real_owed i_real_slides i_real_struck i_real_slid i_trial_owed i_trial_slides i_trial_struck i_trial_slid i_trial_state_now i_weather_length i_weather_cycle i_rule_length i_rule_drafted i_real_state_now a_trial_state_snow a_trial_state_path a_trial_state_debt a_trial_owedBy a_weather_inches a_town_hold a_town_below a_rule_things a_rule_stack a_rule_code a_real_state_snow a_real_state_path a_real_state_debt a_told) := hD
    refine lv_if_ne (tgt := 30) hx hb dX11_premium_19 (by decide) (fun c4 => ?_) (fun c4 => ?_)
    · rw [if_neg c4] at hf
      cases hf
    · rw [if_pos c4] at hf
      exact hthr _ _ _ _ _ hl.1 (Nat.le_of_ble_eq_true rfl) dX11_premium_22 dX11_premium_25 dX11_premium_26 dX11_premium_29 hP hD hS

set_option maxHeartbeats 4000000 in
set_option maxRecDepth 20000 in
theorem kX11_row_T (l : Launch) (hlt : l.stackTraces = false) (E : ENV) (q0 : Nat) (q0_text : Nat) (q0_town : Nat) (q0_weather : Nat) (q0_rule : Nat) (q0_acts : Nat) (q0_real : Nat) (q0_trial : Nat) (q0_round : Nat) (q0_nights : Nat) (q0_before : Nat) (q0_history : Nat) (q0_kept : Nat) (q0_keptHouses : Nat) (q0_shortest : Nat) (q0_tracks : Nat) (q0_tally : Nat) (q0_told : Nat) (i_toldCount : Int32) (a_told : Nat → Int32) (p1 : Int32) (hf : fX11_row_T i_toldCount p1 = some ()) : CT l E yX11_row cX11_row 2 (some .int) 6 [.ref q0, .int p1] (WX11_row E q0 q0_text q0_town q0_weather q0_rule q0_acts q0_real q0_trial q0_round q0_nights q0_before q0_history q0_kept q0_keptHouses q0_shortest q0_tracks q0_tally q0_told i_toldCount a_told) := by
  refine begT hlt (by decide) (Nat.le_of_ble_eq_true rfl) ?_
  intro p e s m args below meth c A Q ls C hA hthr hl hP hD hS
  have hx := C.1
  have hb := C.2.1
  have hl : lv_has ls 2 [(0, .ref q0), (1, .int p1)] := hl
  unfold fX11_row_T at hf
  refine lv_iload_n hx hb dX11_row_0 rfl (lv_at hl 1 rfl) ?_
  refine lv_if_lt (tgt := 18) hx hb dX11_row_1 (by decide) (fun c1 => ?_) (fun c1 => ?_)
  · rw [if_pos c1] at hf
    exact hthr _ _ _ _ _ hl.1 (Nat.le_of_ble_eq_true rfl) dX11_row_18 dX11_row_21 dX11_row_22 dX11_row_25 hP hD hS
  · rw [if_neg c1] at hf
    refine lv_iload_n hx hb dX11_row_4 rfl (lv_at hl 1 rfl) ?_
    refine lv_aload_n hx hb dX11_row_5 rfl (lv_at hl 0 rfl) ?_
    refine gf_RX11_288 C hP 0 rfl rfl dX11_row_6 ?_
    refine lv_icmp_ge (tgt := 18) hx hb dX11_row_9 (by decide) (fun c2 => ?_) (fun c2 => ?_)
    · rw [if_pos c2] at hf
      exact hthr _ _ _ _ _ hl.1 (Nat.le_of_ble_eq_true rfl) dX11_row_18 dX11_row_21 dX11_row_22 dX11_row_25 hP hD hS
    · rw [if_neg c2] at hf
      refine lv_iload_n hx hb dX11_row_12 rfl (lv_at hl 1 rfl) ?_
      refine lv_bipush (v := 8) hx hb dX11_row_13 (by decide) ?_
      refine lv_icmp_lt (tgt := 26) hx hb dX11_row_15 (by decide) (fun c3 => ?_) (fun c3 => ?_)
      · rw [if_pos c3] at hf
        cases hf
      · rw [if_neg c3] at hf
        exact hthr _ _ _ _ _ hl.1 (Nat.le_of_ble_eq_true rfl) dX11_row_18 dX11_row_21 dX11_row_22 dX11_row_25 hP hD hS
