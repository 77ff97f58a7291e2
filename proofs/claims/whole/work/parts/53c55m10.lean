theorem dX11_count_0 : decode cX11_count 0 = .ok (.iload_n 1, 1) := by decide +kernel
theorem dX11_count_1 : decode cX11_count 1 = .ok (.tableswitch 144 0 9 #[55, 63, 74, 85, 96, 107, 115, 123, 131, 136], 55) := by decide +kernel
theorem dX11_count_56 : decode cX11_count 56 = .ok (.aload_n 0, 1) := by decide +kernel
theorem dX11_count_57 : decode cX11_count 57 = .ok (.getfield 19, 3) := by decide +kernel
theorem dX11_count_60 : decode cX11_count 60 = .ok (.getfield 179, 3) := by decide +kernel
theorem dX11_count_63 : decode cX11_count 63 = .ok (.ireturn, 1) := by decide +kernel
theorem dX11_count_64 : decode cX11_count 64 = .ok (.aload_n 0, 1) := by decide +kernel
theorem dX11_count_65 : decode cX11_count 65 = .ok (.getfield 49, 3) := by decide +kernel
theorem dX11_count_68 : decode cX11_count 68 = .ok (.getfield 148, 3) := by decide +kernel
theorem dX11_count_71 : decode cX11_count 71 = .ok (.getfield 408, 3) := by decide +kernel
theorem dX11_count_74 : decode cX11_count 74 = .ok (.ireturn, 1) := by decide +kernel
theorem dX11_count_75 : decode cX11_count 75 = .ok (.aload_n 0, 1) := by decide +kernel
theorem dX11_count_76 : decode cX11_count 76 = .ok (.getfield 49, 3) := by decide +kernel
theorem dX11_count_79 : decode cX11_count 79 = .ok (.getfield 148, 3) := by decide +kernel
theorem dX11_count_82 : decode cX11_count 82 = .ok (.invokevirtual 351, 3) := by decide +kernel
theorem dX11_count_85 : decode cX11_count 85 = .ok (.ireturn, 1) := by decide +kernel
theorem dX11_count_86 : decode cX11_count 86 = .ok (.aload_n 0, 1) := by decide +kernel
theorem dX11_count_87 : decode cX11_count 87 = .ok (.getfield 49, 3) := by decide +kernel
theorem dX11_count_90 : decode cX11_count 90 = .ok (.getfield 148, 3) := by decide +kernel
theorem dX11_count_93 : decode cX11_count 93 = .ok (.invokevirtual 218, 3) := by decide +kernel
theorem dX11_count_96 : decode cX11_count 96 = .ok (.ireturn, 1) := by decide +kernel
theorem dX11_count_97 : decode cX11_count 97 = .ok (.aload_n 0, 1) := by decide +kernel
theorem dX11_count_98 : decode cX11_count 98 = .ok (.getfield 49, 3) := by decide +kernel
theorem dX11_count_101 : decode cX11_count 101 = .ok (.getfield 148, 3) := by decide +kernel
theorem dX11_count_104 : decode cX11_count 104 = .ok (.invokevirtual 308, 3) := by decide +kernel
theorem dX11_count_107 : decode cX11_count 107 = .ok (.ireturn, 1) := by decide +kernel
theorem dX11_count_108 : decode cX11_count 108 = .ok (.aload_n 0, 1) := by decide +kernel
theorem dX11_count_109 : decode cX11_count 109 = .ok (.getfield 26, 3) := by decide +kernel
theorem dX11_count_112 : decode cX11_count 112 = .ok (.getfield 411, 3) := by decide +kernel
theorem dX11_count_115 : decode cX11_count 115 = .ok (.ireturn, 1) := by decide +kernel
theorem dX11_count_116 : decode cX11_count 116 = .ok (.aload_n 0, 1) := by decide +kernel
theorem dX11_count_117 : decode cX11_count 117 = .ok (.getfield 76, 3) := by decide +kernel
theorem dX11_count_120 : decode cX11_count 120 = .ok (.getfield 280, 3) := by decide +kernel
theorem dX11_count_123 : decode cX11_count 123 = .ok (.ireturn, 1) := by decide +kernel
theorem dX11_count_124 : decode cX11_count 124 = .ok (.aload_n 0, 1) := by decide +kernel
theorem dX11_count_125 : decode cX11_count 125 = .ok (.getfield 98, 3) := by decide +kernel
theorem dX11_count_128 : decode cX11_count 128 = .ok (.getfield 414, 3) := by decide +kernel
theorem dX11_count_131 : decode cX11_count 131 = .ok (.ireturn, 1) := by decide +kernel
theorem dX11_count_132 : decode cX11_count 132 = .ok (.aload_n 0, 1) := by decide +kernel
theorem dX11_count_133 : decode cX11_count 133 = .ok (.getfield 288, 3) := by decide +kernel
theorem dX11_count_136 : decode cX11_count 136 = .ok (.ireturn, 1) := by decide +kernel
theorem dX11_count_137 : decode cX11_count 137 = .ok (.aload_n 0, 1) := by decide +kernel
theorem dX11_count_138 : decode cX11_count 138 = .ok (.getfield 10, 3) := by decide +kernel
theorem dX11_count_141 : decode cX11_count 141 = .ok (.getfield 415, 3) := by decide +kernel
theorem dX11_count_144 : decode cX11_count 144 = .ok (.ireturn, 1) := by decide +kernel
theorem dX11_count_145 : decode cX11_count 145 = .ok (.iconst (-1), 1) := by decide +kernel
theorem dX11_count_146 : decode cX11_count 146 = .ok (.ireturn, 1) := by decide +kernel
def WX11_count (E : ENV) (q0 : Nat) (q0_text : Nat) (q0_town : Nat) (q0_weather : Nat) (q0_rule : Nat) (q0_acts : Nat) (q0_real : Nat) (q0_trial : Nat) (q0_round : Nat) (q0_nights : Nat) (q0_before : Nat) (q0_history : Nat) (q0_kept : Nat) (q0_keptHouses : Nat) (q0_shortest : Nat) (q0_tracks : Nat) (q0_tally : Nat) (q0_told : Nat) (q0_text_signs : Nat) (q0_tracks_house : Nat) (q0_tracks_night : Nat) (q0_tracks_out : Nat) (q0_history_states : Nat) (q0_weather_inches : Nat) (q0_real_state : Nat) (q0_real_owedBy : Nat) (q0_real_state_snow : Nat) (q0_real_state_path : Nat) (q0_real_state_debt : Nat) (q0_town_hold : Nat) (q0_town_below : Nat) (q0_town_hay : Nat) (i_toldCount : Int32) (i_text_length : Int32) (i_text_place : Int32) (i_text_limit : Int32) (i_tracks_size : Int32) (i_history_size : Int32) (i_history_next : Int32) (i_weather_length : Int32) (i_weather_cycle : Int32) (i_real_owed : Int32) (i_real_slides : Int32) (i_real_struck : Int32) (i_real_slid : Int32) (i_real_state_now : Int32) (a_real_state_debt : Nat → Int32) (a_real_state_path : Nat → Int32) (a_real_state_snow : Nat → Int32) (i_town_houses : Int32) : va_W := [(q0, .inr (11, [.ref q0_text, .ref q0_town, .ref q0_weather, .ref q0_rule, .ref q0_acts, .ref q0_real, .ref q0_trial, .ref q0_round, .ref q0_nights, .ref q0_before, .ref q0_history, .ref q0_kept, .ref q0_keptHouses, .ref q0_shortest, .ref q0_tracks, .ref q0_tally, .ref q0_told, .int i_toldCount])), (q0_text, .inr (6, [.ref q0_text_signs, .int i_text_length, .int i_text_place, .int i_text_limit])), (q0_tracks, .inr (8, [.ref q0_tracks_house, .ref q0_tracks_night, .ref q0_tracks_out, .int i_tracks_size])), (q0_history, .inr (2, [.ref q0_history_states, .int i_history_size, .int i_history_next])), (q0_weather, .inr (10, [.ref q0_weather_inches, .int i_weather_length, .int i_weather_cycle])), (q0_real, .inr (9, [.ref q0_town, .ref q0_weather, .ref q0_rule, .ref q0_real_state, .ref q0_real_owedBy, .int i_real_owed, .int i_real_slides, .int i_real_struck, .int i_real_slid])), (q0_real_state, .inr (5, [.ref q0_real_state_snow, .ref q0_real_state_path, .ref q0_real_state_debt, .int i_real_state_now])), (q0_real_state_debt, .inl (E.2.1, 49, .inl a_real_state_debt)), (q0_real_state_path, .inl (E.2.1, 7, .inl a_real_state_path)), (q0_real_state_snow, .inl (E.2.1, 14, .inl a_real_state_snow)), (q0_town, .inr (7, [.ref q0_town_hold, .ref q0_town_below, .ref q0_town_hay, .int i_town_houses]))]
set_option maxHeartbeats 4000000 in
set_option maxRecDepth 20000 in
theorem kX11_count (l : Launch) (E : ENV) (q0 : Nat) (q0_text : Nat) (q0_town : Nat) (q0_weather : Nat) (q0_rule : Nat) (q0_acts : Nat) (q0_real : Nat) (q0_trial : Nat) (q0_round : Nat) (q0_nights : Nat) (q0_before : Nat) (q0_history : Nat) (q0_kept : Nat) (q0_keptHouses : Nat) (q0_shortest : Nat) (q0_tracks : Nat) (q0_tally : Nat) (q0_told : Nat) (q0_text_signs : Nat) (q0_tracks_house : Nat) (q0_tracks_night : Nat) (q0_tracks_out : Nat) (q0_history_states : Nat) (q0_weather_inches : Nat) (q0_real_state : Nat) (q0_real_owedBy : Nat) (q0_real_state_snow : Nat) (q0_real_state_path : Nat) (q0_real_state_debt : Nat) (q0_town_hold : Nat) (q0_town_below : Nat) (q0_town_hay : Nat) (i_toldCount : Int32) (i_text_length : Int32) (i_text_place : Int32) (i_text_limit : Int32) (i_tracks_size : Int32) (i_history_size : Int32) (i_history_next : Int32) (i_weather_length : Int32) (i_weather_cycle : Int32) (i_real_owed : Int32) (i_real_slides : Int32) (i_real_struck : Int32) (i_real_slid : Int32) (i_real_state_now : Int32) (a_real_state_debt : Nat → Int32) (a_real_state_path : Nat → Int32) (a_real_state_snow : Nat → Int32) (i_town_houses : Int32) (p1 : Int32) (r9 : Int32) (hf : fX11_count i_toldCount i_text_length i_tracks_size i_history_size i_weather_length i_real_state_now a_real_state_debt a_real_state_path a_real_state_snow i_town_houses p1 = some r9) : CI l E yX11_count cX11_count 2 (some .int) 2 [.ref q0, .int p1] (WX11_count E q0 q0_text q0_town q0_weather q0_rule q0_acts q0_real q0_trial q0_round q0_nights q0_before q0_history q0_kept q0_keptHouses q0_shortest q0_tracks q0_tally q0_told q0_text_signs q0_tracks_house q0_tracks_night q0_tracks_out q0_history_states q0_weather_inches q0_real_state q0_real_owedBy q0_real_state_snow q0_real_state_path q0_real_state_debt q0_town_hold q0_town_below q0_town_hay i_toldCount i_text_length i_text_place i_text_limit i_tracks_size i_history_size i_history_next i_weather_length i_weather_cycle i_real_owed i_real_slides i_real_struck i_real_slid i_real_state_now a_real_state_debt a_real_state_path a_real_state_snow i_town_houses) (WX11_count E q0 q0_text q0_town q0_weather q0_rule q0_acts q0_real q0_trial q0_round q0_nights q0_before q0_history q0_kept q0_keptHouses q0_shortest q0_tracks q0_tally q0_told q0_text_signs q0_tracks_house q0_tracks_night q0_tracks_out q0_history_states q0_weather_inches q0_real_state q0_real_owedBy q0_real_state_snow q0_real_state_path q0_real_state_debt q0_town_hold q0_town_below q0_town_hay i_toldCount i_text_length i_text_place i_text_limit i_tracks_size i_history_size i_history_next i_weather_length i_weather_cycle i_real_owed i_real_slides i_real_struck i_real_slid i_real_state_now a_real_state_debt a_real_state_path a_real_state_snow i_town_houses) r9 := by
  refine begI (by decide +kernel) (Nat.le_of_ble_eq_true rfl) ?_
  intro p e s m args below meth c A Q C hA hret
  have hx := C.1
  have hb := C.2.1
  intro H locs ls hl hP hD hS
  have hl : lv_has ls 2 [(0, .ref q0), (1, .int p1)] := hl
  unfold fX11_count at hf
  refine lv_iload_n hx hb dX11_count_0 rfl (lv_at hl 1 rfl) ?_
  by_cases c1 : p1 = 0
  · rw [if_pos c1] at hf
    refine r_tsw C dX11_count_1 0 c1 (by decide) (by decide) (off := 55) (by decide) (tgt := 56) (by decide) ?_
    refine lv_aload_n hx hb dX11_count_56 rfl (lv_at hl 0 rfl) ?_
    refine gf_RX11_19 C hP 0 rfl rfl dX11_count_57 ?_
    refine gf_RX11_179 C hP 10 rfl rfl dX11_count_60 ?_
    have hj0 := Option.some.inj hf
    subst hj0
    exact hret _ _ _ _ dX11_count_63 rfl hP hD hS
  · rw [if_neg c1] at hf
    by_cases c2 : p1 = 1
    · rw [if_pos c2] at hf
      refine r_tsw C dX11_count_1 1 c2 (by decide) (by decide) (off := 63) (by decide) (tgt := 64) (by decide) ?_
      refine lv_aload_n hx hb dX11_count_64 rfl (lv_at hl 0 rfl) ?_
      refine gf_RX11_49 C hP 0 rfl rfl dX11_count_65 ?_
      refine gf_RX11_148 C hP 5 rfl rfl dX11_count_68 ?_
      refine gf_RX11_408 C hP 6 rfl rfl dX11_count_71 ?_
      have hj0 := Option.some.inj hf
      subst hj0
      exact hret _ _ _ _ dX11_count_74 rfl hP hD hS
    · rw [if_neg c2] at hf
      by_cases c3 : p1 = 2
      · rw [if_pos c3] at hf
        refine r_tsw C dX11_count_1 2 c3 (by decide) (by decide) (off := 74) (by decide) (tgt := 75) (by decide) ?_
        refine lv_aload_n hx hb dX11_count_75 rfl (lv_at hl 0 rfl) ?_
        refine gf_RX11_49 C hP 0 rfl rfl dX11_count_76 ?_
        refine gf_RX11_148 C hP 5 rfl rfl dX11_count_79 ?_
        obtain ⟨o4, hg5, hf⟩ := bd_some hf
        refine k_VI (As := []) C K_RX11_351 (Nat.le_of_ble_eq_true rfl) (Nat.le_of_ble_eq_true rfl) (kX5_onRoofs l E q0_real_state q0_real_state_snow q0_real_state_path q0_real_state_debt i_real_state_now a_real_state_snow o4 hg5) [6, 9] rfl rfl rfl (ci := 5) rfl rfl (q0 := 0) rfl hP hD hS hA hl.1 (Nat.le_of_ble_eq_true rfl) rfl dX11_count_82 (fun H locs hP hD hS => ?_)
        have hP : va_P E.1 classes (WX11_count E q0 q0_text q0_town q0_weather q0_rule q0_acts q0_real q0_trial q0_round q0_nights q0_before q0_history q0_kept q0_keptHouses q0_shortest q0_tracks q0_tally q0_told q0_text_signs q0_tracks_house q0_tracks_night q0_tracks_out q0_history_states q0_weather_inches q0_real_state q0_real_owedBy q0_real_state_snow q0_real_state_path q0_real_state_debt q0_town_hold q0_town_below q0_town_hay i_toldCount i_text_length i_text_place i_text_limit i_tracks_size i_history_size i_history_next i_weather_length i_weather_cycle i_real_owed i_real_slides i_real_struck i_real_slid i_real_state_now a_real_state_debt a_real_state_path a_real_state_snow i_town_houses) H := hP
        have hD : va_D A (WX11_count E q0 q0_text q0_town q0_weather q0_rule q0_acts q0_real q0_trial q0_round q0_nights q0_before q0_history q0_kept q0_keptHouses q0_shortest q0_tracks q0_tally q0_told q0_text_signs q0_tracks_house q0_tracks_night q0_tracks_out q0_history_states q0_weather_inches q0_real_state q0_real_owedBy q0_real_state_snow q0_real_state_path q0_real_state_debt q0_town_hold q0_town_below q0_town_hay i_toldCount i_text_length i_text_place i_text_limit i_tracks_size i_history_size i_history_next i_weather_length i_weather_cycle i_real_owed i_real_slides i_real_struck i_real_slid i_real_state_now a_real_state_debt a_real_state_path a_real_state_snow i_town_houses) := hD
        have hj0 := Option.some.inj hf
        subst hj0
        exact hret _ _ _ _ dX11_count_85 rfl hP hD hS
      · rw [if_neg c3] at hf
        by_cases c6 : p1 = 3
        · rw [if_pos c6] at hf
          refine r_tsw C dX11_count_1 3 c6 (by decide) (by decide) (off := 85) (by decide) (tgt := 86) (by decide) ?_
          refine lv_aload_n hx hb dX11_count_86 rfl (lv_at hl 0 rfl) ?_
          refine gf_RX11_49 C hP 0 rfl rfl dX11_count_87 ?_
          refine gf_RX11_148 C hP 5 rfl rfl dX11_count_90 ?_
          obtain ⟨o7, hg8, hf⟩ := bd_some hf
          refine k_VI (As := []) C K_RX11_218 (Nat.le_of_ble_eq_true rfl) (Nat.le_of_ble_eq_true rfl) (kX5_onPaths l E q0_real_state q0_real_state_snow q0_real_state_path q0_real_state_debt i_real_state_now a_real_state_path o7 hg8) [6, 8] rfl rfl rfl (ci := 5) rfl rfl (q0 := 0) rfl hP hD hS hA hl.1 (Nat.le_of_ble_eq_true rfl) rfl dX11_count_93 (fun H locs hP hD hS => ?_)
          have hP : va_P E.1 classes (WX11_count E q0 q0_text q0_town q0_weather q0_rule q0_acts q0_real q0_trial q0_round q0_nights q0_before q0_history q0_kept q0_keptHouses q0_shortest q0_tracks q0_tally q0_told q0_text_signs q0_tracks_house q0_tracks_night q0_tracks_out q0_history_states q0_weather_inches q0_real_state q0_real_owedBy q0_real_state_snow q0_real_state_path q0_real_state_debt q0_town_hold q0_town_below q0_town_hay i_toldCount i_text_length i_text_place i_text_limit i_tracks_size i_history_size i_history_next i_weather_length i_weather_cycle i_real_owed i_real_slides i_real_struck i_real_slid i_real_state_now a_real_state_debt a_real_state_path a_real_state_snow i_town_houses) H := hP
          have hD : va_D A (WX11_count E q0 q0_text q0_town q0_weather q0_rule q0_acts q0_real q0_trial q0_round q0_nights q0_before q0_history q0_kept q0_keptHouses q0_shortest q0_tracks q0_tally q0_told q0_text_signs q0_tracks_house q0_tracks_night q0_tracks_out q0_history_states q0_weather_inches q0_real_state q0_real_owedBy q0_real_state_snow q0_real_state_path q0_real_state_debt q0_town_hold q0_town_below q0_town_hay i_toldCount i_text_length i_text_place i_text_limit i_tracks_size i_history_size i_history_next i_weather_length i_weather_cycle i_real_owed i_real_slides i_real_struck i_real_slid i_real_state_now a_real_state_debt a_real_state_path a_real_state_snow i_town_houses) := hD
          have hj0 := Option.some.inj hf
          subst hj0
          exact hret _ _ _ _ dX11_count_96 rfl hP hD hS
        · rw [if_neg c6] at hf
          by_cases c9 : p1 = 4
          · rw [if_pos c9] at hf
            refine r_tsw C dX11_count_1 4 c9 (by decide) (by decide) (off := 96) (by decide) (tgt := 97) (by decide) ?_
            refine lv_aload_n hx hb dX11_count_97 rfl (lv_at hl 0 rfl) ?_
            refine gf_RX11_49 C hP 0 rfl rfl dX11_count_98 ?_
            refine gf_RX11_148 C hP 5 rfl rfl dX11_count_101 ?_
            obtain ⟨o10, hg11, hf⟩ := bd_some hf
            refine k_VI (As := []) C K_RX11_308 (Nat.le_of_ble_eq_true rfl) (Nat.le_of_ble_eq_true rfl) (kX5_owedInAll l E q0_real_state q0_real_state_snow q0_real_state_path q0_real_state_debt i_real_state_now a_real_state_debt o10 hg11) [6, 7] rfl rfl rfl (ci := 5) rfl rfl (q0 := 0) rfl hP hD hS hA hl.1 (Nat.le_of_ble_eq_true rfl) rfl dX11_count_104 (fun H locs hP hD hS => ?_)
            have hP : va_P E.1 classes (WX11_count E q0 q0_text q0_town q0_weather q0_rule q0_acts q0_real q0_trial q0_round q0_nights q0_before q0_history q0_kept q0_keptHouses q0_shortest q0_tracks q0_tally q0_told q0_text_signs q0_tracks_house q0_tracks_night q0_tracks_out q0_history_states q0_weather_inches q0_real_state q0_real_owedBy q0_real_state_snow q0_real_state_path q0_real_state_debt q0_town_hold q0_town_below q0_town_hay i_toldCount i_text_length i_text_place i_text_limit i_tracks_size i_history_size i_history_next i_weather_length i_weather_cycle i_real_owed i_real_slides i_real_struck i_real_slid i_real_state_now a_real_state_debt a_real_state_path a_real_state_snow i_town_houses) H := hP
            have hD : va_D A (WX11_count E q0 q0_text q0_town q0_weather q0_rule q0_acts q0_real q0_trial q0_round q0_nights q0_before q0_history q0_kept q0_keptHouses q0_shortest q0_tracks q0_tally q0_told q0_text_signs q0_tracks_house q0_tracks_night q0_tracks_out q0_history_states q0_weather_inches q0_real_state q0_real_owedBy q0_real_state_snow q0_real_state_path q0_real_state_debt q0_town_hold q0_town_below q0_town_hay i_toldCount i_text_length i_text_place i_text_limit i_tracks_size i_history_size i_history_next i_weather_length i_weather_cycle i_real_owed i_real_slides i_real_struck i_real_slid i_real_state_now a_real_state_debt a_real_state_path a_real_state_snow i_town_houses) := hD
            have hj0 := Option.some.inj hf
            subst hj0
            exact hret _ _ _ _ dX11_count_107 rfl hP hD hS
          · rw [if_neg c9] at hf
            by_cases c12 : p1 = 5
            · rw [if_pos c12] at hf
              refine r_tsw C dX11_count_1 5 c12 (by decide) (by decide) (off := 107) (by decide) (tgt := 108) (by decide) ?_
              refine lv_aload_n hx hb dX11_count_108 rfl (lv_at hl 0 rfl) ?_
              refine gf_RX11_26 C hP 0 rfl rfl dX11_count_109 ?_
              refine gf_RX11_411 C hP 4 rfl rfl dX11_count_112 ?_
              have hj0 := Option.some.inj hf
              subst hj0
              exact hret _ _ _ _ dX11_count_115 rfl hP hD hS
            · rw [if_neg c12] at hf
              by_cases c13 : p1 = 6
              · rw [if_pos c13] at hf
                refine r_tsw C dX11_count_1 6 c13 (by decide) (by decide) (off := 115) (by decide) (tgt := 116) (by decide) ?_
                refine lv_aload_n hx hb dX11_count_116 rfl (lv_at hl 0 rfl) ?_
                refine gf_RX11_76 C hP 0 rfl rfl dX11_count_117 ?_
                refine gf_RX11_280 C hP 3 rfl rfl dX11_count_120 ?_
                have hj0 := Option.some.inj hf
                subst hj0
                exact hret _ _ _ _ dX11_count_123 rfl hP hD hS
              · rw [if_neg c13] at hf
                by_cases c14 : p1 = 7
                · rw [if_pos c14] at hf
                  refine r_tsw C dX11_count_1 7 c14 (by decide) (by decide) (off := 123) (by decide) (tgt := 124) (by decide) ?_
                  refine lv_aload_n hx hb dX11_count_124 rfl (lv_at hl 0 rfl) ?_
                  refine gf_RX11_98 C hP 0 rfl rfl dX11_count_125 ?_
                  refine gf_RX11_414 C hP 2 rfl rfl dX11_count_128 ?_
                  have hj0 := Option.some.inj hf
                  subst hj0
                  exact hret _ _ _ _ dX11_count_131 rfl hP hD hS
                · rw [if_neg c14] at hf
                  by_cases c15 : p1 = 8
                  · rw [if_pos c15] at hf
                    refine r_tsw C dX11_count_1 8 c15 (by decide) (by decide) (off := 131) (by decide) (tgt := 132) (by decide) ?_
                    refine lv_aload_n hx hb dX11_count_132 rfl (lv_at hl 0 rfl) ?_
                    refine gf_RX11_288 C hP 0 rfl rfl dX11_count_133 ?_
                    have hj0 := Option.some.inj hf
                    subst hj0
                    exact hret _ _ _ _ dX11_count_136 rfl hP hD hS
                  · rw [if_neg c15] at hf
                    by_cases c16 : p1 = 9
                    · rw [if_pos c16] at hf
                      refine r_tsw C dX11_count_1 9 c16 (by decide) (by decide) (off := 136) (by decide) (tgt := 137) (by decide) ?_
                      refine lv_aload_n hx hb dX11_count_137 rfl (lv_at hl 0 rfl) ?_
                      refine gf_RX11_10 C hP 0 rfl rfl dX11_count_138 ?_
                      refine gf_RX11_415 C hP 1 rfl rfl dX11_count_141 ?_
                      have hj0 := Option.some.inj hf
                      subst hj0
                      exact hret _ _ _ _ dX11_count_144 rfl hP hD hS
                    · rw [if_neg c16] at hf
                      have hc1 : ¬ (p1 : Int32).toInt = 0 := toInt_ne c1
                      have hc2 : ¬ (p1 : Int32).toInt = 1 := toInt_ne c2
                      have hc3 : ¬ (p1 : Int32).toInt = 2 := toInt_ne c3
                      have hc6 : ¬ (p1 : Int32).toInt = 3 := toInt_ne c6
                      have hc9 : ¬ (p1 : Int32).toInt = 4 := toInt_ne c9
                      have hc12 : ¬ (p1 : Int32).toInt = 5 := toInt_ne c12
                      have hc13 : ¬ (p1 : Int32).toInt = 6 := toInt_ne c13
                      have hc14 : ¬ (p1 : Int32).toInt = 7 := toInt_ne c14
                      have hc15 : ¬ (p1 : Int32).toInt = 8 := toInt_ne c15
                      have hc16 : ¬ (p1 : Int32).toInt = 9 := toInt_ne c16
                      refine lv_tableOut hx hb dX11_count_1 (by omega) (tgt := 145) (by decide) ?_
                      refine lv_iconst (v := (-1)) hx hb dX11_count_145 (by decide) ?_
                      have hj0 := Option.some.inj hf
                      subst hj0
                      exact hret _ _ _ _ dX11_count_146 rfl hP hD hS
theorem dX11_row_0 : decode cX11_row 0 = .ok (.iload_n 1, 1) := by decide +kernel
theorem dX11_row_1 : decode cX11_row 1 = .ok (.ifCond .lt 17, 3) := by decide +kernel
theorem dX11_row_4 : decode cX11_row 4 = .ok (.iload_n 1, 1) := by decide +kernel
theorem dX11_row_5 : decode cX11_row 5 = .ok (.aload_n 0, 1) := by decide +kernel
theorem dX11_row_6 : decode cX11_row 6 = .ok (.getfield 288, 3) := by decide +kernel
theorem dX11_row_9 : decode cX11_row 9 = .ok (.if_icmp .ge 9, 3) := by decide +kernel
theorem dX11_row_12 : decode cX11_row 12 = .ok (.iload_n 1, 1) := by decide +kernel
theorem dX11_row_13 : decode cX11_row 13 = .ok (.bipush 8, 2) := by decide +kernel
theorem dX11_row_15 : decode cX11_row 15 = .ok (.if_icmp .lt 11, 3) := by decide +kernel
theorem dX11_row_18 : decode cX11_row 18 = .ok (.new 142, 3) := by decide +kernel
theorem dX11_row_21 : decode cX11_row 21 = .ok (.dup, 1) := by decide +kernel
theorem dX11_row_22 : decode cX11_row 22 = .ok (.invokespecial 144, 3) := by decide +kernel
theorem dX11_row_25 : decode cX11_row 25 = .ok (.athrow, 1) := by decide +kernel
theorem dX11_row_26 : decode cX11_row 26 = .ok (.aload_n 0, 1) := by decide +kernel
theorem dX11_row_27 : decode cX11_row 27 = .ok (.getfield 105, 3) := by decide +kernel
theorem dX11_row_30 : decode cX11_row 30 = .ok (.iload_n 1, 1) := by decide +kernel
theorem dX11_row_31 : decode cX11_row 31 = .ok (.iaload, 1) := by decide +kernel
theorem dX11_row_32 : decode cX11_row 32 = .ok (.ireturn, 1) := by decide +kernel
def WX11_row (E : ENV) (q0 : Nat) (q0_text : Nat) (q0_town : Nat) (q0_weather : Nat) (q0_rule : Nat) (q0_acts : Nat) (q0_real : Nat) (q0_trial : Nat) (q0_round : Nat) (q0_nights : Nat) (q0_before : Nat) (q0_history : Nat) (q0_kept : Nat) (q0_keptHouses : Nat) (q0_shortest : Nat) (q0_tracks : Nat) (q0_tally : Nat) (q0_told : Nat) (i_toldCount : Int32) (a_told : Nat → Int32) : va_W := [(q0, .inr (11, [.ref q0_text, .ref q0_town, .ref q0_weather, .ref q0_rule, .ref q0_acts, .ref q0_real, .ref q0_trial, .ref q0_round, .ref q0_nights, .ref q0_before, .ref q0_history, .ref q0_kept, .ref q0_keptHouses, .ref q0_shortest, .ref q0_tracks, .ref q0_tally, .ref q0_told, .int i_toldCount])), (q0_told, .inl (E.2.1, 8, .inl a_told))]
set_option maxHeartbeats 4000000 in
set_option maxRecDepth 20000 in
theorem kX11_row (l : Launch) (E : ENV) (q0 : Nat) (q0_text : Nat) (q0_town : Nat) (q0_weather : Nat) (q0_rule : Nat) (q0_acts : Nat) (q0_real : Nat) (q0_trial : Nat) (q0_round : Nat) (q0_nights : Nat) (q0_before : Nat) (q0_history : Nat) (q0_kept : Nat) (q0_keptHouses : Nat) (q0_shortest : Nat) (q0_tracks : Nat) (q0_tally : Nat) (q0_told : Nat) (i_toldCount : Int32) (a_told : Nat → Int32) (p1 : Int32) (r9 : Int32) (hf : fX11_row i_toldCount a_told p1 = some r9) : CI l E yX11_row cX11_row 2 (some .int) 0 [.ref q0, .int p1] (WX11_row E q0 q0_text q0_town q0_weather q0_rule q0_acts q0_real q0_trial q0_round q0_nights q0_before q0_history q0_kept q0_keptHouses q0_shortest q0_tracks q0_tally q0_told i_toldCount a_told) (WX11_row E q0 q0_text q0_town q0_weather q0_rule q0_acts q0_real q0_trial q0_round q0_nights q0_before q0_history q0_kept q0_keptHouses q0_shortest q0_tracks q0_tally q0_told i_toldCount a_told) r9 := by
  refine begI (by decide +kernel) (Nat.le_of_ble_eq_true rfl) ?_
  intro p e s m args below meth c A Q C hA hret
  have hx := C.1
  have hb := C.2.1
  intro H locs ls hl hP hD hS
  have hl : lv_has ls 2 [(0, .ref q0), (1, .int p1)] := hl
  unfold fX11_row at hf
  refine lv_iload_n hx hb dX11_row_0 rfl (lv_at hl 1 rfl) ?_
  refine lv_if_lt (tgt := 18) hx hb dX11_row_1 (by decide) (fun c1 => ?_) (fun c1 => ?_)
  · rw [if_pos c1] at hf
    cases hf
  · rw [if_neg c1] at hf
    refine lv_iload_n hx hb dX11_row_4 rfl (lv_at hl 1 rfl) ?_
    refine lv_aload_n hx hb dX11_row_5 rfl (lv_at hl 0 rfl) ?_
    refine gf_RX11_288 C hP 0 rfl rfl dX11_row_6 ?_
    refine lv_icmp_ge (tgt := 18) hx hb dX11_row_9 (by decide) (fun c2 => ?_) (fun c2 => ?_)
    · rw [if_pos c2] at hf
      cases hf
    · rw [if_neg c2] at hf
      refine lv_iload_n hx hb dX11_row_12 rfl (lv_at hl 1 rfl) ?_
      refine lv_bipush (v := 8) hx hb dX11_row_13 (by decide) ?_
      refine lv_icmp_lt (tgt := 26) hx hb dX11_row_15 (by decide) (fun c3 => ?_) (fun c3 => ?_)
      · rw [if_pos c3] at hf
        refine lv_aload_n hx hb dX11_row_26 rfl (lv_at hl 0 rfl) ?_
        refine gf_RX11_105 C hP 0 rfl rfl dX11_row_27 ?_
        refine lv_iload_n hx hb dX11_row_30 rfl (lv_at hl 1 rfl) ?_
        obtain ⟨g4, hf⟩ := gd_some hf
        refine va_iald hx hb C.2.2.2.2.2.1 hP 1 0 rfl rfl (vin_in g4) dX11_row_31 ?_
        have hj0 := Option.some.inj hf
        subst hj0
        exact hret _ _ _ _ dX11_row_32 rfl hP hD hS
      · rw [if_neg c3] at hf
        cases hf
