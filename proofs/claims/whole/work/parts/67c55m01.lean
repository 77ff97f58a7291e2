theorem K_RX11_163 : KV RX11 163 yX5_owedBy cX5_owedBy 4 (some .int) 1 := ⟨Tg_mem 976 (by decide +kernel) (by decide +kernel), Tg_mem 97 (by decide +kernel) (by decide +kernel), Tg_mem 998 (by decide +kernel) (by decide +kernel), Tg_mem 974 (by decide +kernel) (by decide +kernel), Tg_mem 975 (by decide +kernel) (by decide +kernel), by decide +kernel⟩
theorem K_RX11_166 : KV RX11 166 yX5_owedTo cX5_owedTo 4 (some .int) 1 := ⟨Tg_mem 972 (by decide +kernel) (by decide +kernel), Tg_mem 97 (by decide +kernel) (by decide +kernel), Tg_mem 1063 (by decide +kernel) (by decide +kernel), Tg_mem 970 (by decide +kernel) (by decide +kernel), Tg_mem 971 (by decide +kernel) (by decide +kernel), by decide +kernel⟩
theorem dX11_of_0 : decode cX11_of 0 = .ok (.aload_n 0, 1) := by decide +kernel
theorem dX11_of_1 : decode cX11_of 1 = .ok (.getfield 19, 3) := by decide +kernel
theorem dX11_of_4 : decode cX11_of 4 = .ok (.iload_n 1, 1) := by decide +kernel
theorem dX11_of_5 : decode cX11_of 5 = .ok (.invokevirtual 139, 3) := by decide +kernel
theorem dX11_of_8 : decode cX11_of 8 = .ok (.ifCond .ne 11, 3) := by decide +kernel
theorem dX11_of_11 : decode cX11_of 11 = .ok (.new 142, 3) := by decide +kernel
theorem dX11_of_14 : decode cX11_of 14 = .ok (.dup, 1) := by decide +kernel
theorem dX11_of_15 : decode cX11_of 15 = .ok (.invokespecial 144, 3) := by decide +kernel
theorem dX11_of_18 : decode cX11_of 18 = .ok (.athrow, 1) := by decide +kernel
theorem dX11_of_19 : decode cX11_of 19 = .ok (.iload_n 2, 1) := by decide +kernel
theorem dX11_of_20 : decode cX11_of 20 = .ok (.tableswitch 167 0 8 #[52, 62, 77, 94, 107, 119, 133, 143, 155], 52) := by decide +kernel
theorem dX11_of_72 : decode cX11_of 72 = .ok (.aload_n 0, 1) := by decide +kernel
theorem dX11_of_73 : decode cX11_of 73 = .ok (.getfield 19, 3) := by decide +kernel
theorem dX11_of_76 : decode cX11_of 76 = .ok (.getfield 145, 3) := by decide +kernel
theorem dX11_of_79 : decode cX11_of 79 = .ok (.iload_n 1, 1) := by decide +kernel
theorem dX11_of_80 : decode cX11_of 80 = .ok (.iaload, 1) := by decide +kernel
theorem dX11_of_81 : decode cX11_of 81 = .ok (.ireturn, 1) := by decide +kernel
theorem dX11_of_82 : decode cX11_of 82 = .ok (.aload_n 0, 1) := by decide +kernel
theorem dX11_of_83 : decode cX11_of 83 = .ok (.getfield 49, 3) := by decide +kernel
theorem dX11_of_86 : decode cX11_of 86 = .ok (.getfield 148, 3) := by decide +kernel
theorem dX11_of_89 : decode cX11_of 89 = .ok (.getfield 151, 3) := by decide +kernel
theorem dX11_of_92 : decode cX11_of 92 = .ok (.iconst 2, 1) := by decide +kernel
theorem dX11_of_93 : decode cX11_of 93 = .ok (.iload_n 1, 1) := by decide +kernel
theorem dX11_of_94 : decode cX11_of 94 = .ok (.imul, 1) := by decide +kernel
theorem dX11_of_95 : decode cX11_of 95 = .ok (.iaload, 1) := by decide +kernel
theorem dX11_of_96 : decode cX11_of 96 = .ok (.ireturn, 1) := by decide +kernel
theorem dX11_of_97 : decode cX11_of 97 = .ok (.aload_n 0, 1) := by decide +kernel
theorem dX11_of_98 : decode cX11_of 98 = .ok (.getfield 49, 3) := by decide +kernel
theorem dX11_of_101 : decode cX11_of 101 = .ok (.getfield 148, 3) := by decide +kernel
theorem dX11_of_104 : decode cX11_of 104 = .ok (.getfield 151, 3) := by decide +kernel
theorem dX11_of_107 : decode cX11_of 107 = .ok (.iconst 2, 1) := by decide +kernel
theorem dX11_of_108 : decode cX11_of 108 = .ok (.iload_n 1, 1) := by decide +kernel
theorem dX11_of_109 : decode cX11_of 109 = .ok (.imul, 1) := by decide +kernel
theorem dX11_of_110 : decode cX11_of 110 = .ok (.iconst 1, 1) := by decide +kernel
theorem dX11_of_111 : decode cX11_of 111 = .ok (.iadd, 1) := by decide +kernel
theorem dX11_of_112 : decode cX11_of 112 = .ok (.iaload, 1) := by decide +kernel
theorem dX11_of_113 : decode cX11_of 113 = .ok (.ireturn, 1) := by decide +kernel
theorem dX11_of_114 : decode cX11_of 114 = .ok (.aload_n 0, 1) := by decide +kernel
theorem dX11_of_115 : decode cX11_of 115 = .ok (.getfield 49, 3) := by decide +kernel
theorem dX11_of_118 : decode cX11_of 118 = .ok (.getfield 148, 3) := by decide +kernel
theorem dX11_of_121 : decode cX11_of 121 = .ok (.getfield 154, 3) := by decide +kernel
theorem dX11_of_124 : decode cX11_of 124 = .ok (.iload_n 1, 1) := by decide +kernel
theorem dX11_of_125 : decode cX11_of 125 = .ok (.iaload, 1) := by decide +kernel
theorem dX11_of_126 : decode cX11_of 126 = .ok (.ireturn, 1) := by decide +kernel
theorem dX11_of_127 : decode cX11_of 127 = .ok (.aload_n 0, 1) := by decide +kernel
theorem dX11_of_128 : decode cX11_of 128 = .ok (.getfield 19, 3) := by decide +kernel
theorem dX11_of_131 : decode cX11_of 131 = .ok (.getfield 157, 3) := by decide +kernel
theorem dX11_of_134 : decode cX11_of 134 = .ok (.iconst 2, 1) := by decide +kernel
theorem dX11_of_135 : decode cX11_of 135 = .ok (.iload_n 1, 1) := by decide +kernel
theorem dX11_of_136 : decode cX11_of 136 = .ok (.imul, 1) := by decide +kernel
theorem dX11_of_137 : decode cX11_of 137 = .ok (.iaload, 1) := by decide +kernel
theorem dX11_of_138 : decode cX11_of 138 = .ok (.ireturn, 1) := by decide +kernel
theorem dX11_of_139 : decode cX11_of 139 = .ok (.aload_n 0, 1) := by decide +kernel
theorem dX11_of_140 : decode cX11_of 140 = .ok (.getfield 19, 3) := by decide +kernel
theorem dX11_of_143 : decode cX11_of 143 = .ok (.getfield 157, 3) := by decide +kernel
theorem dX11_of_146 : decode cX11_of 146 = .ok (.iconst 2, 1) := by decide +kernel
theorem dX11_of_147 : decode cX11_of 147 = .ok (.iload_n 1, 1) := by decide +kernel
theorem dX11_of_148 : decode cX11_of 148 = .ok (.imul, 1) := by decide +kernel
theorem dX11_of_149 : decode cX11_of 149 = .ok (.iconst 1, 1) := by decide +kernel
theorem dX11_of_150 : decode cX11_of 150 = .ok (.iadd, 1) := by decide +kernel
theorem dX11_of_151 : decode cX11_of 151 = .ok (.iaload, 1) := by decide +kernel
theorem dX11_of_152 : decode cX11_of 152 = .ok (.ireturn, 1) := by decide +kernel
theorem dX11_of_153 : decode cX11_of 153 = .ok (.aload_n 0, 1) := by decide +kernel
theorem dX11_of_154 : decode cX11_of 154 = .ok (.getfield 19, 3) := by decide +kernel
theorem dX11_of_157 : decode cX11_of 157 = .ok (.getfield 160, 3) := by decide +kernel
theorem dX11_of_160 : decode cX11_of 160 = .ok (.iload_n 1, 1) := by decide +kernel
theorem dX11_of_161 : decode cX11_of 161 = .ok (.iaload, 1) := by decide +kernel
theorem dX11_of_162 : decode cX11_of 162 = .ok (.ireturn, 1) := by decide +kernel
theorem dX11_of_163 : decode cX11_of 163 = .ok (.aload_n 0, 1) := by decide +kernel
theorem dX11_of_164 : decode cX11_of 164 = .ok (.getfield 49, 3) := by decide +kernel
theorem dX11_of_167 : decode cX11_of 167 = .ok (.getfield 148, 3) := by decide +kernel
theorem dX11_of_170 : decode cX11_of 170 = .ok (.iload_n 1, 1) := by decide +kernel
theorem dX11_of_171 : decode cX11_of 171 = .ok (.invokevirtual 163, 3) := by decide +kernel
theorem dX11_of_174 : decode cX11_of 174 = .ok (.ireturn, 1) := by decide +kernel
theorem dX11_of_175 : decode cX11_of 175 = .ok (.aload_n 0, 1) := by decide +kernel
theorem dX11_of_176 : decode cX11_of 176 = .ok (.getfield 49, 3) := by decide +kernel
theorem dX11_of_179 : decode cX11_of 179 = .ok (.getfield 148, 3) := by decide +kernel
theorem dX11_of_182 : decode cX11_of 182 = .ok (.iload_n 1, 1) := by decide +kernel
theorem dX11_of_183 : decode cX11_of 183 = .ok (.invokevirtual 166, 3) := by decide +kernel
theorem dX11_of_186 : decode cX11_of 186 = .ok (.ireturn, 1) := by decide +kernel
theorem dX11_of_187 : decode cX11_of 187 = .ok (.new 142, 3) := by decide +kernel
theorem dX11_of_190 : decode cX11_of 190 = .ok (.dup, 1) := by decide +kernel
theorem dX11_of_191 : decode cX11_of 191 = .ok (.invokespecial 144, 3) := by decide +kernel
theorem dX11_of_194 : decode cX11_of 194 = .ok (.athrow, 1) := by decide +kernel
def WX11_of (E : ENV) (q0 : Nat) (q0_text : Nat) (q0_town : Nat) (q0_weather : Nat) (q0_rule : Nat) (q0_acts : Nat) (q0_real : Nat) (q0_trial : Nat) (q0_round : Nat) (q0_nights : Nat) (q0_before : Nat) (q0_history : Nat) (q0_kept : Nat) (q0_keptHouses : Nat) (q0_shortest : Nat) (q0_tracks : Nat) (q0_tally : Nat) (q0_told : Nat) (q0_town_hold : Nat) (q0_town_below : Nat) (q0_town_hay : Nat) (q0_real_state : Nat) (q0_real_owedBy : Nat) (q0_real_state_snow : Nat) (q0_real_state_path : Nat) (q0_real_state_debt : Nat) (i_toldCount : Int32) (i_town_houses : Int32) (i_real_owed : Int32) (i_real_slides : Int32) (i_real_struck : Int32) (i_real_slid : Int32) (i_real_state_now : Int32) (a_real_state_debt : Nat → Int32) (a_town_hay : Nat → Int32) (a_town_below : Nat → Int32) (a_real_state_path : Nat → Int32) (a_real_state_snow : Nat → Int32) (a_town_hold : Nat → Int32) : va_W := [(q0, .inr (11, [.ref q0_text, .ref q0_town, .ref q0_weather, .ref q0_rule, .ref q0_acts, .ref q0_real, .ref q0_trial, .ref q0_round, .ref q0_nights, .ref q0_before, .ref q0_history, .ref q0_kept, .ref q0_keptHouses, .ref q0_shortest, .ref q0_tracks, .ref q0_tally, .ref q0_told, .int i_toldCount])), (q0_town, .inr (7, [.ref q0_town_hold, .ref q0_town_below, .ref q0_town_hay, .int i_town_houses])), (q0_real, .inr (9, [.ref q0_town, .ref q0_weather, .ref q0_rule, .ref q0_real_state, .ref q0_real_owedBy, .int i_real_owed, .int i_real_slides, .int i_real_struck, .int i_real_slid])), (q0_real_state, .inr (5, [.ref q0_real_state_snow, .ref q0_real_state_path, .ref q0_real_state_debt, .int i_real_state_now])), (q0_real_state_debt, .inl (E.2.1, 49, .inl a_real_state_debt)), (q0_town_hay, .inl (E.2.1, 7, .inl a_town_hay)), (q0_town_below, .inl (E.2.1, 14, .inl a_town_below)), (q0_real_state_path, .inl (E.2.1, 7, .inl a_real_state_path)), (q0_real_state_snow, .inl (E.2.1, 14, .inl a_real_state_snow)), (q0_town_hold, .inl (E.2.1, 7, .inl a_town_hold))]
set_option maxHeartbeats 4000000 in
set_option maxRecDepth 20000 in
theorem kX11_of (l : Launch) (E : ENV) (q0 : Nat) (q0_text : Nat) (q0_town : Nat) (q0_weather : Nat) (q0_rule : Nat) (q0_acts : Nat) (q0_real : Nat) (q0_trial : Nat) (q0_round : Nat) (q0_nights : Nat) (q0_before : Nat) (q0_history : Nat) (q0_kept : Nat) (q0_keptHouses : Nat) (q0_shortest : Nat) (q0_tracks : Nat) (q0_tally : Nat) (q0_told : Nat) (q0_town_hold : Nat) (q0_town_below : Nat) (q0_town_hay : Nat) (q0_real_state : Nat) (q0_real_owedBy : Nat) (q0_real_state_snow : Nat) (q0_real_state_path : Nat) (q0_real_state_debt : Nat) (i_toldCount : Int32) (i_town_houses : Int32) (i_real_owed : Int32) (i_real_slides : Int32) (i_real_struck : Int32) (i_real_slid : Int32) (i_real_state_now : Int32) (a_real_state_debt : Nat → Int32) (a_town_hay : Nat → Int32) (a_town_below : Nat → Int32) (a_real_state_path : Nat → Int32) (a_real_state_snow : Nat → Int32) (a_town_hold : Nat → Int32) (p1 : Int32) (p2 : Int32) (o9 : Int32) (hf : fX11_of i_town_houses a_real_state_debt a_town_hay a_town_below a_real_state_path a_real_state_snow a_town_hold p1 p2 = some o9) : CI l E yX11_of cX11_of 3 (some .int) 1 [.ref q0, .int p1, .int p2] (WX11_of E q0 q0_text q0_town q0_weather q0_rule q0_acts q0_real q0_trial q0_round q0_nights q0_before q0_history q0_kept q0_keptHouses q0_shortest q0_tracks q0_tally q0_told q0_town_hold q0_town_below q0_town_hay q0_real_state q0_real_owedBy q0_real_state_snow q0_real_state_path q0_real_state_debt i_toldCount i_town_houses i_real_owed i_real_slides i_real_struck i_real_slid i_real_state_now a_real_state_debt a_town_hay a_town_below a_real_state_path a_real_state_snow a_town_hold) (WX11_of E q0 q0_text q0_town q0_weather q0_rule q0_acts q0_real q0_trial q0_round q0_nights q0_before q0_history q0_kept q0_keptHouses q0_shortest q0_tracks q0_tally q0_told q0_town_hold q0_town_below q0_town_hay q0_real_state q0_real_owedBy q0_real_state_snow q0_real_state_path q0_real_state_debt i_toldCount i_town_houses i_real_owed i_real_slides i_real_struck i_real_slid i_real_state_now a_real_state_debt a_town_hay a_town_below a_real_state_path a_real_state_snow a_town_hold) o9 := by
  refine begI (by decide +kernel) (Nat.le_of_ble_eq_true rfl) ?_
  intro p e s m args below meth c A Q C hA hret
  have hx := C.1
  have hb := C.2.1
  intro H locs ls hl hP hD hS
  have hl : lv_has ls 3 [(0, .ref q0), (1, .int p1), (2, .int p2)] := hl
  unfold fX11_of at hf
  refine lv_aload_n hx hb dX11_of_0 rfl (lv_at hl 0 rfl) ?_
  refine gf_RX11_19 C hP 0 rfl rfl dX11_of_1 ?_
  refine lv_iload_n hx hb dX11_of_4 rfl (lv_at hl 1 rfl) ?_
  obtain ⟨o1, hg2, hf⟩ := bd_some hf
  refine k_VI2 (As := [.int p1]) C K_RX11_139 (Nat.le_of_ble_eq_true rfl) (Nat.le_of_ble_eq_true rfl) (kX7_has l E q0_town q0_town_hold q0_town_below q0_town_hay i_town_houses p1 o1 hg2) [1] rfl rfl rfl (ci := 7) rfl rfl (q0 := 0) rfl hP hD hS hA hl.1 (Nat.le_of_ble_eq_true rfl) rfl dX11_of_5 (ws2 := (WX11_of E q0 q0_text q0_town q0_weather q0_rule q0_acts q0_real q0_trial q0_round q0_nights q0_before q0_history q0_kept q0_keptHouses q0_shortest q0_tracks q0_tally q0_told q0_town_hold q0_town_below q0_town_hay q0_real_state q0_real_owedBy q0_real_state_snow q0_real_state_path q0_real_state_debt i_toldCount i_town_houses i_real_owed i_real_slides i_real_struck i_real_slid i_real_state_now a_real_state_debt a_town_hay a_town_below a_real_state_path a_real_state_snow a_town_hold)) 10 [0, 2, 3, 4, 5, 6, 7, 8, 9] rfl rfl rfl rfl (by decide +kernel) (fun H locs hP hD hS => ?_)
  refine lv_if_ne (tgt := 19) hx hb dX11_of_8 (by decide) (fun c3 => ?_) (fun c3 => ?_)
  · rw [if_neg c3] at hf
    refine lv_iload_n hx hb dX11_of_19 rfl (lv_at hl 2 rfl) ?_
    by_cases c4 : p2 = 0
    · rw [if_pos c4] at hf
      refine r_tsw C dX11_of_20 0 c4 (by decide) (by decide) (off := 52) (by decide) (tgt := 72) (by decide) ?_
      refine lv_aload_n hx hb dX11_of_72 rfl (lv_at hl 0 rfl) ?_
      refine gf_RX11_19 C hP 0 rfl rfl dX11_of_73 ?_
      refine gf_RX11_145 C hP 1 rfl rfl dX11_of_76 ?_
      refine lv_iload_n hx hb dX11_of_79 rfl (lv_at hl 1 rfl) ?_
      obtain ⟨g5, hf⟩ := gd_some hf
      refine va_iald hx hb C.2.2.2.2.2.1 hP 9 0 rfl rfl (vin_in g5) dX11_of_80 ?_
      have hj0 := Option.some.inj hf
      subst hj0
      exact hret _ _ _ _ dX11_of_81 rfl hP hD hS
    · rw [if_neg c4] at hf
      by_cases c6 : p2 = 1
      · rw [if_pos c6] at hf
        refine r_tsw C dX11_of_20 1 c6 (by decide) (by decide) (off := 62) (by decide) (tgt := 82) (by decide) ?_
        refine lv_aload_n hx hb dX11_of_82 rfl (lv_at hl 0 rfl) ?_
        refine gf_RX11_49 C hP 0 rfl rfl dX11_of_83 ?_
        refine gf_RX11_148 C hP 2 rfl rfl dX11_of_86 ?_
        refine gf_RX11_151 C hP 3 rfl rfl dX11_of_89 ?_
        refine lv_iconst (v := 2) hx hb dX11_of_92 (by decide) ?_
        refine lv_iload_n hx hb dX11_of_93 rfl (lv_at hl 1 rfl) ?_
        refine lv_imul hx hb dX11_of_94 ?_
        obtain ⟨g7, hf⟩ := gd_some hf
        refine va_iald hx hb C.2.2.2.2.2.1 hP 8 0 rfl rfl (vin_in g7) dX11_of_95 ?_
        have hj0 := Option.some.inj hf
        subst hj0
        exact hret _ _ _ _ dX11_of_96 rfl hP hD hS
      · rw [if_neg c6] at hf
        by_cases c8 : p2 = 2
        · rw [if_pos c8] at hf
          refine r_tsw C dX11_of_20 2 c8 (by decide) (by decide) (off := 77) (by decide) (tgt := 97) (by decide) ?_
          refine lv_aload_n hx hb dX11_of_97 rfl (lv_at hl 0 rfl) ?_
          refine gf_RX11_49 C hP 0 rfl rfl dX11_of_98 ?_
          refine gf_RX11_148 C hP 2 rfl rfl dX11_of_101 ?_
          refine gf_RX11_151 C hP 3 rfl rfl dX11_of_104 ?_
          refine lv_iconst (v := 2) hx hb dX11_of_107 (by decide) ?_
          refine lv_iload_n hx hb dX11_of_108 rfl (lv_at hl 1 rfl) ?_
          refine lv_imul hx hb dX11_of_109 ?_
          refine lv_iconst (v := 1) hx hb dX11_of_110 (by decide) ?_
          refine lv_iadd hx hb dX11_of_111 ?_
          obtain ⟨g9, hf⟩ := gd_some hf
          refine va_iald hx hb C.2.2.2.2.2.1 hP 8 0 rfl rfl (vin_in g9) dX11_of_112 ?_
          have hj0 := Option.some.inj hf
          subst hj0
          exact hret _ _ _ _ dX11_of_113 rfl hP hD hS
        · rw [if_neg c8] at hf
          by_cases c10 : p2 = 3
          · rw [if_pos c10] at hf
            refine r_tsw C dX11_of_20 3 c10 (by decide) (by decide) (off := 94) (by decide) (tgt := 114) (by decide) ?_
            refine lv_aload_n hx hb dX11_of_114 rfl (lv_at hl 0 rfl) ?_
            refine gf_RX11_49 C hP 0 rfl rfl dX11_of_115 ?_
            refine gf_RX11_148 C hP 2 rfl rfl dX11_of_118 ?_
            refine gf_RX11_154 C hP 3 rfl rfl dX11_of_121 ?_
            refine lv_iload_n hx hb dX11_of_124 rfl (lv_at hl 1 rfl) ?_
            obtain ⟨g11, hf⟩ := gd_some hf
            refine va_iald hx hb C.2.2.2.2.2.1 hP 7 0 rfl rfl (vin_in g11) dX11_of_125 ?_
            have hj0 := Option.some.inj hf
            subst hj0
            exact hret _ _ _ _ dX11_of_126 rfl hP hD hS
          · rw [if_neg c10] at hf
            by_cases c12 : p2 = 4
            · rw [if_pos c12] at hf
              refine r_tsw C dX11_of_20 4 c12 (by decide) (by decide) (off := 107) (by decide) (tgt := 127) (by decide) ?_
              refine lv_aload_n hx hb dX11_of_127 rfl (lv_at hl 0 rfl) ?_
              refine gf_RX11_19 C hP 0 rfl rfl dX11_of_128 ?_
              refine gf_RX11_157 C hP 1 rfl rfl dX11_of_131 ?_
              refine lv_iconst (v := 2) hx hb dX11_of_134 (by decide) ?_
              refine lv_iload_n hx hb dX11_of_135 rfl (lv_at hl 1 rfl) ?_
              refine lv_imul hx hb dX11_of_136 ?_
              obtain ⟨g13, hf⟩ := gd_some hf
              refine va_iald hx hb C.2.2.2.2.2.1 hP 6 0 rfl rfl (vin_in g13) dX11_of_137 ?_
              have hj0 := Option.some.inj hf
              subst hj0
              exact hret _ _ _ _ dX11_of_138 rfl hP hD hS
            · rw [if_neg c12] at hf
              by_cases c14 : p2 = 5
              · rw [if_pos c14] at hf
                refine r_tsw C dX11_of_20 5 c14 (by decide) (by decide) (off := 119) (by decide) (tgt := 139) (by decide) ?_
                refine lv_aload_n hx hb dX11_of_139 rfl (lv_at hl 0 rfl) ?_
                refine gf_RX11_19 C hP 0 rfl rfl dX11_of_140 ?_
                refine gf_RX11_157 C hP 1 rfl rfl dX11_of_143 ?_
                refine lv_iconst (v := 2) hx hb dX11_of_146 (by decide) ?_
                refine lv_iload_n hx hb dX11_of_147 rfl (lv_at hl 1 rfl) ?_
                refine lv_imul hx hb dX11_of_148 ?_
                refine lv_iconst (v := 1) hx hb dX11_of_149 (by decide) ?_
                refine lv_iadd hx hb dX11_of_150 ?_
                obtain ⟨g15, hf⟩ := gd_some hf
                refine va_iald hx hb C.2.2.2.2.2.1 hP 6 0 rfl rfl (vin_in g15) dX11_of_151 ?_
                have hj0 := Option.some.inj hf
                subst hj0
                exact hret _ _ _ _ dX11_of_152 rfl hP hD hS
              · rw [if_neg c14] at hf
                by_cases c16 : p2 = 6
                · rw [if_pos c16] at hf
                  refine r_tsw C dX11_of_20 6 c16 (by decide) (by decide) (off := 133) (by decide) (tgt := 153) (by decide) ?_
                  refine lv_aload_n hx hb dX11_of_153 rfl (lv_at hl 0 rfl) ?_
                  refine gf_RX11_19 C hP 0 rfl rfl dX11_of_154 ?_
                  refine gf_RX11_160 C hP 1 rfl rfl dX11_of_157 ?_
                  refine lv_iload_n hx hb dX11_of_160 rfl (lv_at hl 1 rfl) ?_
                  obtain ⟨g17, hf⟩ := gd_some hf
                  refine va_iald hx hb C.2.2.2.2.2.1 hP 5 0 rfl rfl (vin_in g17) dX11_of_161 ?_
                  have hj0 := Option.some.inj hf
                  subst hj0
                  exact hret _ _ _ _ dX11_of_162 rfl hP hD hS
                · rw [if_neg c16] at hf
                  by_cases c18 : p2 = 7
                  · rw [if_pos c18] at hf
                    refine r_tsw C dX11_of_20 7 c18 (by decide) (by decide) (off := 143) (by decide) (tgt := 163) (by decide) ?_
                    refine lv_aload_n hx hb dX11_of_163 rfl (lv_at hl 0 rfl) ?_
                    refine gf_RX11_49 C hP 0 rfl rfl dX11_of_164 ?_
                    refine gf_RX11_148 C hP 2 rfl rfl dX11_of_167 ?_
                    refine lv_iload_n hx hb dX11_of_170 rfl (lv_at hl 1 rfl) ?_
                    obtain ⟨o19, hg20, hf⟩ := bd_some hf
                    refine k_VI2 (As := [.int p1]) C K_RX11_163 (Nat.le_of_ble_eq_true rfl) (Nat.le_of_ble_eq_true rfl) (kX5_owedBy l E q0_real_state q0_real_state_snow q0_real_state_path q0_real_state_debt i_real_state_now a_real_state_debt p1 o19 hg20) [3, 4] rfl rfl rfl (ci := 5) rfl rfl (q0 := 0) rfl hP hD hS hA hl.1 (Nat.le_of_ble_eq_true rfl) rfl dX11_of_171 (ws2 := (WX11_of E q0 q0_text q0_town q0_weather q0_rule q0_acts q0_real q0_trial q0_round q0_nights q0_before q0_history q0_kept q0_keptHouses q0_shortest q0_tracks q0_tally q0_told q0_town_hold q0_town_below q0_town_hay q0_real_state q0_real_owedBy q0_real_state_snow q0_real_state_path q0_real_state_debt i_toldCount i_town_houses i_real_owed i_real_slides i_real_struck i_real_slid i_real_state_now a_real_state_debt a_town_hay a_town_below a_real_state_path a_real_state_snow a_town_hold)) 10 [0, 1, 2, 5, 6, 7, 8, 9] rfl rfl rfl rfl (by decide +kernel) (fun H locs hP hD hS => ?_)
                    have hj0 := Option.some.inj hf
                    subst hj0
                    exact hret _ _ _ _ dX11_of_174 rfl hP hD hS
                  · rw [if_neg c18] at hf
                    by_cases c21 : p2 = 8
                    · rw [if_pos c21] at hf
                      refine r_tsw C dX11_of_20 8 c21 (by decide) (by decide) (off := 155) (by decide) (tgt := 175) (by decide) ?_
                      refine lv_aload_n hx hb dX11_of_175 rfl (lv_at hl 0 rfl) ?_
                      refine gf_RX11_49 C hP 0 rfl rfl dX11_of_176 ?_
                      refine gf_RX11_148 C hP 2 rfl rfl dX11_of_179 ?_
                      refine lv_iload_n hx hb dX11_of_182 rfl (lv_at hl 1 rfl) ?_
                      obtain ⟨o22, hg23, hf⟩ := bd_some hf
                      refine k_VI2 (As := [.int p1]) C K_RX11_166 (Nat.le_of_ble_eq_true rfl) (Nat.le_of_ble_eq_true rfl) (kX5_owedTo l E q0_real_state q0_real_state_snow q0_real_state_path q0_real_state_debt i_real_state_now a_real_state_debt p1 o22 hg23) [3, 4] rfl rfl rfl (ci := 5) rfl rfl (q0 := 0) rfl hP hD hS hA hl.1 (Nat.le_of_ble_eq_true rfl) rfl dX11_of_183 (ws2 := (WX11_of E q0 q0_text q0_town q0_weather q0_rule q0_acts q0_real q0_trial q0_round q0_nights q0_before q0_history q0_kept q0_keptHouses q0_shortest q0_tracks q0_tally q0_told q0_town_hold q0_town_below q0_town_hay q0_real_state q0_real_owedBy q0_real_state_snow q0_real_state_path q0_real_state_debt i_toldCount i_town_houses i_real_owed i_real_slides i_real_struck i_real_slid i_real_state_now a_real_state_debt a_town_hay a_town_below a_real_state_path a_real_state_snow a_town_hold)) 10 [0, 1, 2, 5, 6, 7, 8, 9] rfl rfl rfl rfl (by decide +kernel) (fun H locs hP hD hS => ?_)
                      have hj0 := Option.some.inj hf
                      subst hj0
                      exact hret _ _ _ _ dX11_of_186 rfl hP hD hS
                    · rw [if_neg c21] at hf
                      have hc4 : ¬ (p2 : Int32).toInt = 0 := toInt_ne c4
                      have hc6 : ¬ (p2 : Int32).toInt = 1 := toInt_ne c6
                      have hc8 : ¬ (p2 : Int32).toInt = 2 := toInt_ne c8
                      have hc10 : ¬ (p2 : Int32).toInt = 3 := toInt_ne c10
                      have hc12 : ¬ (p2 : Int32).toInt = 4 := toInt_ne c12
                      have hc14 : ¬ (p2 : Int32).toInt = 5 := toInt_ne c14
                      have hc16 : ¬ (p2 : Int32).toInt = 6 := toInt_ne c16
                      have hc18 : ¬ (p2 : Int32).toInt = 7 := toInt_ne c18
                      have hc21 : ¬ (p2 : Int32).toInt = 8 := toInt_ne c21
                      refine lv_tableOut hx hb dX11_of_20 (by omega) (tgt := 187) (by decide) ?_
                      cases hf
  · rw [if_pos c3] at hf
    cases hf
theorem q419 : Cond.fieldLink RX11 91 "SnowForSummer" "shortest" "LSnowForSummer$Ring;" ∈ Tg := Tg_mem 419 (by decide +kernel) (by decide +kernel)
theorem gf_RX11_91 {p : Program} {l : Launch} {e : Env} {R : Room} {s : State} {m : MethodId} {args : Array Value} {below : List Frame} {meth : Method} {c : Code} {H : Heap} {locs : List Loc} {cells slots : Nat} {Q : State → Prop} {E : ENV} {cc : ByteArray} {n : Nat} {r : Option FieldType} {pc : Nat} {ls : Array Slot} {rest : List Value} {a : Nat} {ws : va_W} {nm ds : String} {fs : List Value} {A : Nat → Prop} {v : Value} (C : Cx E A ⟨RX11, nm, ds⟩ cc n r p s m args meth c) (hP : va_P E.1 classes ws H) (q0 : Nat) (he : ws[q0]? = some (a, .inr (11, fs))) (hv : fs[13]? = some v) (hdg : decode cc pc = .ok (.getfield 91, 3))
    (kk : W p l e R s m args below meth c H locs cells slots Q (F0 m (pc + 3) ls (v :: rest))) : W p l e R s m args below meth c H locs cells slots Q (F0 m pc ls (.ref a :: rest)) :=
  va_get (C := RX11) (T := TX11) (N := 18) (Ts := wl ⟨RX11, nm, ds⟩ cc n r) C.1 C.2.1 C.2.2.2.2.1 (fun w h => List.mem_cons_of_mem _ (inT11 w h)) C.2.2.2.1 C.2.2.2.2.2.1 hP q0 he rfl 13 (by decide) (C.2.2.2.2.1 _ (List.mem_cons_of_mem _ q419)) (fun _ h9 => h9) hv hdg kk
theorem K_RX11_284 : KV RX11 284 yX3_find cX3_find 4 (some .boolean) 1 := ⟨Tg_mem 926 (by decide +kernel) (by decide +kernel), Tg_mem 100 (by decide +kernel) (by decide +kernel), Tg_mem 923 (by decide +kernel) (by decide +kernel), Tg_mem 924 (by decide +kernel) (by decide +kernel), Tg_mem 925 (by decide +kernel) (by decide +kernel), by decide +kernel⟩
theorem q373 : Cond.fieldLinkNest RX11 291 "SnowForSummer$Ring" "size" "I" "SnowForSummer" ∈ NL := NL_mem 373 (by decide +kernel) (by decide +kernel)
theorem gf_RX11_291 {p : Program} {l : Launch} {e : Env} {R : Room} {s : State} {m : MethodId} {args : Array Value} {below : List Frame} {meth : Method} {c : Code} {H : Heap} {locs : List Loc} {cells slots : Nat} {Q : State → Prop} {E : ENV} {cc : ByteArray} {n : Nat} {r : Option FieldType} {pc : Nat} {ls : Array Slot} {rest : List Value} {a : Nat} {ws : va_W} {nm ds : String} {fs : List Value} {A : Nat → Prop} {v : Value} (C : Cx E A ⟨RX11, nm, ds⟩ cc n r p s m args meth c) (hP : va_P E.1 classes ws H) (q0 : Nat) (he : ws[q0]? = some (a, .inr (3, fs))) (hv : fs[2]? = some v) (hdg : decode cc pc = .ok (.getfield 291, 3))
    (kk : W p l e R s m args below meth c H locs cells slots Q (F0 m (pc + 3) ls (v :: rest))) : W p l e R s m args below meth c H locs cells slots Q (F0 m pc ls (.ref a :: rest)) :=
  va_getN (C := RX3) (T := TX3) (N := 4) (Ts := wl ⟨RX11, nm, ds⟩ cc n r) C.1 C.2.1 C.2.2.2.2.1 (fun w h => List.mem_cons_of_mem _ (inT3 w h)) C.2.2.2.1 C.2.2.2.2.2.1 hP q0 he rfl 2 (by decide) (va_Nw.use rfl (C.2.2.2.2.2.2.2.2.1 _ q373)) (fun _ h9 => h9) hv hdg kk
theorem q370 : Cond.fieldLinkNest RX11 292 "SnowForSummer$Ring" "members" "[I" "SnowForSummer" ∈ NL := NL_mem 370 (by decide +kernel) (by decide +kernel)
theorem gf_RX11_292 {p : Program} {l : Launch} {e : Env} {R : Room} {s : State} {m : MethodId} {args : Array Value} {below : List Frame} {meth : Method} {c : Code} {H : Heap} {locs : List Loc} {cells slots : Nat} {Q : State → Prop} {E : ENV} {cc : ByteArray} {n : Nat} {r : Option FieldType} {pc : Nat} {ls : Array Slot} {rest : List Value} {a : Nat} {ws : va_W} {nm ds : String} {fs : List Value} {A : Nat → Prop} {v : Value} (C : Cx E A ⟨RX11, nm, ds⟩ cc n r p s m args meth c) (hP : va_P E.1 classes ws H) (q0 : Nat) (he : ws[q0]? = some (a, .inr (3, fs))) (hv : fs[0]? = some v) (hdg : decode cc pc = .ok (.getfield 292, 3))
    (kk : W p l e R s m args below meth c H locs cells slots Q (F0 m (pc + 3) ls (v :: rest))) : W p l e R s m args below meth c H locs cells slots Q (F0 m pc ls (.ref a :: rest)) :=
  va_getN (C := RX3) (T := TX3) (N := 4) (Ts := wl ⟨RX11, nm, ds⟩ cc n r) C.1 C.2.1 C.2.2.2.2.1 (fun w h => List.mem_cons_of_mem _ (inT3 w h)) C.2.2.2.1 C.2.2.2.2.2.1 hP q0 he rfl 0 (by decide) (va_Nw.use rfl (C.2.2.2.2.2.2.2.2.1 _ q370)) (fun _ h9 => h9) hv hdg kk
theorem q375 : Cond.fieldLinkNest RX11 298 "SnowForSummer$Ring" "least" "I" "SnowForSummer" ∈ NL := NL_mem 375 (by decide +kernel) (by decide +kernel)
theorem gf_RX11_298 {p : Program} {l : Launch} {e : Env} {R : Room} {s : State} {m : MethodId} {args : Array Value} {below : List Frame} {meth : Method} {c : Code} {H : Heap} {locs : List Loc} {cells slots : Nat} {Q : State → Prop} {E : ENV} {cc : ByteArray} {n : Nat} {r : Option FieldType} {pc : Nat} {ls : Array Slot} {rest : List Value} {a : Nat} {ws : va_W} {nm ds : String} {fs : List Value} {A : Nat → Prop} {v : Value} (C : Cx E A ⟨RX11, nm, ds⟩ cc n r p s m args meth c) (hP : va_P E.1 classes ws H) (q0 : Nat) (he : ws[q0]? = some (a, .inr (3, fs))) (hv : fs[3]? = some v) (hdg : decode cc pc = .ok (.getfield 298, 3))
    (kk : W p l e R s m args below meth c H locs cells slots Q (F0 m (pc + 3) ls (v :: rest))) : W p l e R s m args below meth c H locs cells slots Q (F0 m pc ls (.ref a :: rest)) :=
  va_getN (C := RX3) (T := TX3) (N := 4) (Ts := wl ⟨RX11, nm, ds⟩ cc n r) C.1 C.2.1 C.2.2.2.2.1 (fun w h => List.mem_cons_of_mem _ (inT3 w h)) C.2.2.2.1 C.2.2.2.2.2.1 hP q0 he rfl 3 (by decide) (va_Nw.use rfl (C.2.2.2.2.2.2.2.2.1 _ q375)) (fun _ h9 => h9) hv hdg kk
theorem dX11_ring_0 : decode cX11_ring 0 = .ok (.aload_n 0, 1) := by decide +kernel
theorem dX11_ring_1 : decode cX11_ring 1 = .ok (.getfield 91, 3) := by decide +kernel
theorem dX11_ring_4 : decode cX11_ring 4 = .ok (.aload_n 0, 1) := by decide +kernel
theorem dX11_ring_5 : decode cX11_ring 5 = .ok (.getfield 49, 3) := by decide +kernel
theorem dX11_ring_8 : decode cX11_ring 8 = .ok (.getfield 148, 3) := by decide +kernel
theorem dX11_ring_11 : decode cX11_ring 11 = .ok (.invokevirtual 284, 3) := by decide +kernel
theorem dX11_ring_14 : decode cX11_ring 14 = .ok (.ifCond .ne 6, 3) := by decide +kernel
theorem dX11_ring_17 : decode cX11_ring 17 = .ok (.bipush (-2), 2) := by decide +kernel
theorem dX11_ring_19 : decode cX11_ring 19 = .ok (.ireturn, 1) := by decide +kernel
theorem dX11_ring_20 : decode cX11_ring 20 = .ok (.aload_n 0, 1) := by decide +kernel
theorem dX11_ring_21 : decode cX11_ring 21 = .ok (.iconst 0, 1) := by decide +kernel
theorem dX11_ring_22 : decode cX11_ring 22 = .ok (.putfield 288, 3) := by decide +kernel
theorem dX11_ring_25 : decode cX11_ring 25 = .ok (.iconst 0, 1) := by decide +kernel
theorem dX11_ring_26 : decode cX11_ring 26 = .ok (.istore_n 1, 1) := by decide +kernel
theorem dX11_ring_27 : decode cX11_ring 27 = .ok (.iload_n 1, 1) := by decide +kernel
theorem dX11_ring_28 : decode cX11_ring 28 = .ok (.aload_n 0, 1) := by decide +kernel
theorem dX11_ring_29 : decode cX11_ring 29 = .ok (.getfield 91, 3) := by decide +kernel
theorem dX11_ring_32 : decode cX11_ring 32 = .ok (.getfield 291, 3) := by decide +kernel
theorem dX11_ring_35 : decode cX11_ring 35 = .ok (.if_icmp .ge 22, 3) := by decide +kernel
theorem dX11_ring_38 : decode cX11_ring 38 = .ok (.aload_n 0, 1) := by decide +kernel
theorem dX11_ring_39 : decode cX11_ring 39 = .ok (.aload_n 0, 1) := by decide +kernel
theorem dX11_ring_40 : decode cX11_ring 40 = .ok (.getfield 91, 3) := by decide +kernel
theorem dX11_ring_43 : decode cX11_ring 43 = .ok (.getfield 292, 3) := by decide +kernel
theorem dX11_ring_46 : decode cX11_ring 46 = .ok (.iload_n 1, 1) := by decide +kernel
theorem dX11_ring_47 : decode cX11_ring 47 = .ok (.iaload, 1) := by decide +kernel
theorem dX11_ring_48 : decode cX11_ring 48 = .ok (.invokevirtual 295, 3) := by decide +kernel
theorem dX11_ring_51 : decode cX11_ring 51 = .ok (.iinc 1 1, 3) := by decide +kernel
theorem dX11_ring_54 : decode cX11_ring 54 = .ok (.goto (-27), 3) := by decide +kernel
theorem dX11_ring_57 : decode cX11_ring 57 = .ok (.aload_n 0, 1) := by decide +kernel
theorem dX11_ring_58 : decode cX11_ring 58 = .ok (.aload_n 0, 1) := by decide +kernel
theorem dX11_ring_59 : decode cX11_ring 59 = .ok (.getfield 91, 3) := by decide +kernel
theorem dX11_ring_62 : decode cX11_ring 62 = .ok (.getfield 298, 3) := by decide +kernel
theorem dX11_ring_65 : decode cX11_ring 65 = .ok (.invokevirtual 295, 3) := by decide +kernel
theorem dX11_ring_68 : decode cX11_ring 68 = .ok (.aload_n 0, 1) := by decide +kernel
theorem dX11_ring_69 : decode cX11_ring 69 = .ok (.getfield 91, 3) := by decide +kernel
theorem dX11_ring_72 : decode cX11_ring 72 = .ok (.getfield 291, 3) := by decide +kernel
theorem dX11_ring_75 : decode cX11_ring 75 = .ok (.ireturn, 1) := by decide +kernel
def WX11_ring (E : ENV) (q0 : Nat) (q0_text : Nat) (q0_town : Nat) (q0_weather : Nat) (q0_rule : Nat) (q0_acts : Nat) (q0_real : Nat) (q0_trial : Nat) (q0_round : Nat) (q0_nights : Nat) (q0_before : Nat) (q0_history : Nat) (q0_kept : Nat) (q0_keptHouses : Nat) (q0_shortest : Nat) (q0_tracks : Nat) (q0_tally : Nat) (q0_told : Nat) (q0_real_state : Nat) (q0_real_owedBy : Nat) (q0_shortest_members : Nat) (q0_shortest_steps : Nat) (q0_real_state_snow : Nat) (q0_real_state_path : Nat) (q0_real_state_debt : Nat) (i_toldCount : Int32) (i_real_owed : Int32) (i_real_slides : Int32) (i_real_struck : Int32) (i_real_slid : Int32) (i_shortest_size : Int32) (i_shortest_least : Int32) (i_real_state_now : Int32) (a_shortest_steps : Nat → Int32) (a_shortest_members : Nat → Int32) (a_real_state_debt : Nat → Int32) (a_told : Nat → Int32) : va_W := [(q0, .inr (11, [.ref q0_text, .ref q0_town, .ref q0_weather, .ref q0_rule, .ref q0_acts, .ref q0_real, .ref q0_trial, .ref q0_round, .ref q0_nights, .ref q0_before, .ref q0_history, .ref q0_kept, .ref q0_keptHouses, .ref q0_shortest, .ref q0_tracks, .ref q0_tally, .ref q0_told, .int i_toldCount])), (q0_real, .inr (9, [.ref q0_town, .ref q0_weather, .ref q0_rule, .ref q0_real_state, .ref q0_real_owedBy, .int i_real_owed, .int i_real_slides, .int i_real_struck, .int i_real_slid])), (q0_shortest, .inr (3, [.ref q0_shortest_members, .ref q0_shortest_steps, .int i_shortest_size, .int i_shortest_least])), (q0_real_state, .inr (5, [.ref q0_real_state_snow, .ref q0_real_state_path, .ref q0_real_state_debt, .int i_real_state_now])), (q0_shortest_steps, .inl (E.2.1, 7, .inl a_shortest_steps)), (q0_shortest_members, .inl (E.2.1, 7, .inl a_shortest_members)), (q0_real_state_debt, .inl (E.2.1, 49, .inl a_real_state_debt)), (q0_told, .inl (E.2.1, 8, .inl a_told))]
set_option maxHeartbeats 4000000 in
set_option maxRecDepth 20000 in
theorem kX11_ring (l : Launch) (E : ENV) (q0 : Nat) (q0_text : Nat) (q0_town : Nat) (q0_weather : Nat) (q0_rule : Nat) (q0_acts : Nat) (q0_real : Nat) (q0_trial : Nat) (q0_round : Nat) (q0_nights : Nat) (q0_before : Nat) (q0_history : Nat) (q0_kept : Nat) (q0_keptHouses : Nat) (q0_shortest : Nat) (q0_tracks : Nat) (q0_tally : Nat) (q0_told : Nat) (q0_real_state : Nat) (q0_real_owedBy : Nat) (q0_shortest_members : Nat) (q0_shortest_steps : Nat) (q0_real_state_snow : Nat) (q0_real_state_path : Nat) (q0_real_state_debt : Nat) (i_toldCount : Int32) (i_real_owed : Int32) (i_real_slides : Int32) (i_real_struck : Int32) (i_real_slid : Int32) (i_shortest_size : Int32) (i_shortest_least : Int32) (i_real_state_now : Int32) (a_shortest_steps : Nat → Int32) (a_shortest_members : Nat → Int32) (a_real_state_debt : Nat → Int32) (a_told : Nat → Int32) (o9 : Int32 × Int32 × Int32 × Int32 × (Nat → Int32) × (Nat → Int32) × (Nat → Int32)) (hf : fX11_ring i_toldCount i_shortest_size i_shortest_least a_shortest_steps a_shortest_members a_real_state_debt a_told = some o9) : CI l E yX11_ring cX11_ring 2 (some .int) 4 [.ref q0] (WX11_ring E q0 q0_text q0_town q0_weather q0_rule q0_acts q0_real q0_trial q0_round q0_nights q0_before q0_history q0_kept q0_keptHouses q0_shortest q0_tracks q0_tally q0_told q0_real_state q0_real_owedBy q0_shortest_members q0_shortest_steps q0_real_state_snow q0_real_state_path q0_real_state_debt i_toldCount i_real_owed i_real_slides i_real_struck i_real_slid i_shortest_size i_shortest_least i_real_state_now a_shortest_steps a_shortest_members a_real_state_debt a_told) (WX11_ring E q0 q0_text q0_town q0_weather q0_rule q0_acts q0_real q0_trial q0_round q0_nights q0_before q0_history q0_kept q0_keptHouses q0_shortest q0_tracks q0_tally q0_told q0_real_state q0_real_owedBy q0_shortest_members q0_shortest_steps q0_real_state_snow q0_real_state_path q0_real_state_debt o9.2.1 i_real_owed i_real_slides i_real_struck i_real_slid o9.2.2.1 o9.2.2.2.1 i_real_state_now o9.2.2.2.2.1 o9.2.2.2.2.2.1 a_real_state_debt o9.2.2.2.2.2.2) o9.1 := by
  refine begI (by decide +kernel) (Nat.le_of_ble_eq_true rfl) ?_
  intro p e s m args below meth c A Q C hA hret
  have hx := C.1
  have hb := C.2.1
  have L27 : ∀ (i_shortest_size : Int32) (i_shortest_least : Int32) (a_shortest_steps : Nat → Int32) (a_shortest_members : Nat → Int32), ∀ (n : Nat) (v1 : Int32) (i_toldCount : Int32) (a_told : Nat → Int32) (o : Int32 × (Nat → Int32)), fX11_ring_L27 i_shortest_size a_shortest_members n v1 i_toldCount a_told = some o → (GO p l e 4 s m args below meth c Q E A 2 57 [] [(0, .ref q0)] (WX11_ring E q0 q0_text q0_town q0_weather q0_rule q0_acts q0_real q0_trial q0_round q0_nights q0_before q0_history q0_kept q0_keptHouses q0_shortest q0_tracks q0_tally q0_told q0_real_state q0_real_owedBy q0_shortest_members q0_shortest_steps q0_real_state_snow q0_real_state_path q0_real_state_debt o.1 i_real_owed i_real_slides i_real_struck i_real_slid i_shortest_size i_shortest_least i_real_state_now a_shortest_steps a_shortest_members a_real_state_debt o.2)) → GO p l e 4 s m args below meth c Q E A 2 27 [] [(0, .ref q0), (1, .int v1)] (WX11_ring E q0 q0_text q0_town q0_weather q0_rule q0_acts q0_real q0_trial q0_round q0_nights q0_before q0_history q0_kept q0_keptHouses q0_shortest q0_tracks q0_tally q0_told q0_real_state q0_real_owedBy q0_shortest_members q0_shortest_steps q0_real_state_snow q0_real_state_path q0_real_state_debt i_toldCount i_real_owed i_real_slides i_real_struck i_real_slid i_shortest_size i_shortest_least i_real_state_now a_shortest_steps a_shortest_members a_real_state_debt a_told) := by
    intro i_shortest_size i_shortest_least a_shortest_steps a_shortest_members
    intro n
    induction n with
    | zero =>
      intro v1 i_toldCount a_told o hf
      have hf : none = some o := hf
      cases hf
    | succ n ih =>
      intro v1 i_toldCount a_told o hf hE
      intro H locs ls hl hP hD hS
      rw [fX11_ring_L27] at hf
      refine lv_iload_n hx hb dX11_ring_27 rfl (lv_at hl 1 rfl) ?_
      refine lv_aload_n hx hb dX11_ring_28 rfl (lv_at hl 0 rfl) ?_
      refine gf_RX11_91 C hP 0 rfl rfl dX11_ring_29 ?_
      refine gf_RX11_291 C hP 2 rfl rfl dX11_ring_32 ?_
      refine lv_icmp_ge (tgt := 57) hx hb dX11_ring_35 (by decide) (fun c4 => ?_) (fun c4 => ?_)
      · rw [if_pos c4] at hf
        have hf := Option.some.inj hf
        subst hf
        exact hE _ _ _ (lv_sub hl [0] rfl) hP hD hS
      · rw [if_neg c4] at hf
        refine lv_aload_n hx hb dX11_ring_38 rfl (lv_at hl 0 rfl) ?_
        refine lv_aload_n hx hb dX11_ring_39 rfl (lv_at hl 0 rfl) ?_
        refine gf_RX11_91 C hP 0 rfl rfl dX11_ring_40 ?_
        refine gf_RX11_292 C hP 2 rfl rfl dX11_ring_43 ?_
        refine lv_iload_n hx hb dX11_ring_46 rfl (lv_at hl 1 rfl) ?_
        obtain ⟨g5, hf⟩ := gd_some hf
        refine va_iald hx hb C.2.2.2.2.2.1 hP 5 0 rfl rfl (vin_in g5) dX11_ring_47 ?_
        obtain ⟨o6, hg7, hf⟩ := bd_some hf
        refine k_VV2 (As := [.int ((a_shortest_members (v1 : Int32).toNatClampNeg))]) C K_RX11_295 (Nat.le_of_ble_eq_true rfl) (Nat.le_of_ble_eq_true rfl) (kX11_tellMore l E q0 q0_text q0_town q0_weather q0_rule q0_acts q0_real q0_trial q0_round q0_nights q0_before q0_history q0_kept q0_keptHouses q0_shortest q0_tracks q0_tally q0_told i_toldCount a_told ((a_shortest_members (v1 : Int32).toNatClampNeg)) o6 hg7) [0, 7] rfl rfl rfl (ci := 11) rfl rfl (q0 := 0) rfl hP hD hS hA hl.1 (Nat.le_of_ble_eq_true rfl) rfl dX11_ring_48 (ws2 := (WX11_ring E q0 q0_text q0_town q0_weather q0_rule q0_acts q0_real q0_trial q0_round q0_nights q0_before q0_history q0_kept q0_keptHouses q0_shortest q0_tracks q0_tally q0_told q0_real_state q0_real_owedBy q0_shortest_members q0_shortest_steps q0_real_state_snow q0_real_state_path q0_real_state_debt o6.1 i_real_owed i_real_slides i_real_struck i_real_slid i_shortest_size i_shortest_least i_real_state_now a_shortest_steps a_shortest_members a_real_state_debt o6.2)) 8 [1, 2, 3, 4, 5, 6] rfl rfl rfl rfl (by decide +kernel) (fun H locs hP hD hS => ?_)
        refine lv_iinc (v := (v1 + 1)) (lv' := [(1, .int ((v1 + 1))), (0, .ref q0)]) hx hb dX11_ring_51 hl (k := 1) rfl rfl (by decide) rfl (fun ls hl => ?_)
        refine lv_goto (tgt := 27) hx hb dX11_ring_54 (by decide) ?_
        exact ih ((v1 + 1)) o6.1 o6.2 _ hf hE _ _ _ (lv_sub hl [1, 0] rfl) hP hD hS
  intro H locs ls hl hP hD hS
  have hl : lv_has ls 2 [(0, .ref q0)] := hl
  unfold fX11_ring at hf
  refine lv_aload_n hx hb dX11_ring_0 rfl (lv_at hl 0 rfl) ?_
  refine gf_RX11_91 C hP 0 rfl rfl dX11_ring_1 ?_
  refine lv_aload_n hx hb dX11_ring_4 rfl (lv_at hl 0 rfl) ?_
  refine gf_RX11_49 C hP 0 rfl rfl dX11_ring_5 ?_
  refine gf_RX11_148 C hP 1 rfl rfl dX11_ring_8 ?_
  obtain ⟨o1, hg2, hf⟩ := bd_some hf
  refine k_VI2 (As := [.ref q0_real_state]) C K_RX11_284 (Nat.le_of_ble_eq_true rfl) (Nat.le_of_ble_eq_true rfl) (kX3_find l E q0_shortest q0_shortest_members q0_shortest_steps q0_real_state q0_real_state_snow q0_real_state_path q0_real_state_debt i_shortest_size i_shortest_least a_shortest_steps a_shortest_members i_real_state_now a_real_state_debt o1.1 o1.2.1 o1.2.2.1 o1.2.2.2.1 o1.2.2.2.2 hg2) [2, 4, 5, 3, 6] rfl rfl rfl (ci := 3) rfl rfl (q0 := 0) rfl hP hD hS hA hl.1 (Nat.le_of_ble_eq_true rfl) rfl dX11_ring_11 (ws2 := (WX11_ring E q0 q0_text q0_town q0_weather q0_rule q0_acts q0_real q0_trial q0_round q0_nights q0_before q0_history q0_kept q0_keptHouses q0_shortest q0_tracks q0_tally q0_told q0_real_state q0_real_owedBy q0_shortest_members q0_shortest_steps q0_real_state_snow q0_real_state_path q0_real_state_debt i_toldCount i_real_owed i_real_slides i_real_struck i_real_slid o1.2.1 o1.2.2.1 i_real_state_now o1.2.2.2.1 o1.2.2.2.2 a_real_state_debt a_told)) 8 [0, 1, 7] rfl rfl rfl rfl (by decide +kernel) (fun H locs hP hD hS => ?_)
  refine lv_if_ne (tgt := 20) hx hb dX11_ring_14 (by decide) (fun c3 => ?_) (fun c3 => ?_)
  · rw [if_neg c3] at hf
    refine lv_aload_n hx hb dX11_ring_20 rfl (lv_at hl 0 rfl) ?_
    refine lv_iconst (v := 0) hx hb dX11_ring_21 (by decide) ?_
    refine pf_RX11_288 C hP hD hS 0 rfl (Nat.le_of_ble_eq_true rfl) dX11_ring_22 (fun H locs hP hD hS => ?_)
    have hP : va_P E.1 classes (WX11_ring E q0 q0_text q0_town q0_weather q0_rule q0_acts q0_real q0_trial q0_round q0_nights q0_before q0_history q0_kept q0_keptHouses q0_shortest q0_tracks q0_tally q0_told q0_real_state q0_real_owedBy q0_shortest_members q0_shortest_steps q0_real_state_snow q0_real_state_path q0_real_state_debt 0 i_real_owed i_real_slides i_real_struck i_real_slid o1.2.1 o1.2.2.1 i_real_state_now o1.2.2.2.1 o1.2.2.2.2 a_real_state_debt a_told) H := hP
    have hD : va_D A (WX11_ring E q0 q0_text q0_town q0_weather q0_rule q0_acts q0_real q0_trial q0_round q0_nights q0_before q0_history q0_kept q0_keptHouses q0_shortest q0_tracks q0_tally q0_told q0_real_state q0_real_owedBy q0_shortest_members q0_shortest_steps q0_real_state_snow q0_real_state_path q0_real_state_debt 0 i_real_owed i_real_slides i_real_struck i_real_slid o1.2.1 o1.2.2.1 i_real_state_now o1.2.2.2.1 o1.2.2.2.2 a_real_state_debt a_told) := hD
    refine lv_iconst (v := 0) hx hb dX11_ring_25 (by decide) ?_
    refine lv_istore_n (lv' := [(1, .int 0), (0, .ref q0)]) hx hb dX11_ring_26 rfl hl (by decide) rfl (fun ls hl => ?_)
    obtain ⟨o8, hg9, hf⟩ := bd_some hf
    refine L27 o1.2.1 o1.2.2.1 o1.2.2.2.1 o1.2.2.2.2 FU 0 0 a_told o8 hg9 ?_ _ _ _ (lv_sub hl [1, 0] rfl) hP hD hS
    intro H locs ls hl hP hD hS
    refine lv_aload_n hx hb dX11_ring_57 rfl (lv_at hl 0 rfl) ?_
    refine lv_aload_n hx hb dX11_ring_58 rfl (lv_at hl 0 rfl) ?_
    refine gf_RX11_91 C hP 0 rfl rfl dX11_ring_59 ?_
    refine gf_RX11_298 C hP 2 rfl rfl dX11_ring_62 ?_
    obtain ⟨o10, hg11, hf⟩ := bd_some hf
    refine k_VV2 (As := [.int o1.2.2.1]) C K_RX11_295 (Nat.le_of_ble_eq_true rfl) (Nat.le_of_ble_eq_true rfl) (kX11_tellMore l E q0 q0_text q0_town q0_weather q0_rule q0_acts q0_real q0_trial q0_round q0_nights q0_before q0_history q0_kept q0_keptHouses q0_shortest q0_tracks q0_tally q0_told o8.1 o8.2 o1.2.2.1 o10 hg11) [0, 7] rfl rfl rfl (ci := 11) rfl rfl (q0 := 0) rfl hP hD hS hA hl.1 (Nat.le_of_ble_eq_true rfl) rfl dX11_ring_65 (ws2 := (WX11_ring E q0 q0_text q0_town q0_weather q0_rule q0_acts q0_real q0_trial q0_round q0_nights q0_before q0_history q0_kept q0_keptHouses q0_shortest q0_tracks q0_tally q0_told q0_real_state q0_real_owedBy q0_shortest_members q0_shortest_steps q0_real_state_snow q0_real_state_path q0_real_state_debt o10.1 i_real_owed i_real_slides i_real_struck i_real_slid o1.2.1 o1.2.2.1 i_real_state_now o1.2.2.2.1 o1.2.2.2.2 a_real_state_debt o10.2)) 8 [1, 2, 3, 4, 5, 6] rfl rfl rfl rfl (by decide +kernel) (fun H locs hP hD hS => ?_)
    refine lv_aload_n hx hb dX11_ring_68 rfl (lv_at hl 0 rfl) ?_
    refine gf_RX11_91 C hP 0 rfl rfl dX11_ring_69 ?_
    refine gf_RX11_291 C hP 2 rfl rfl dX11_ring_72 ?_
    have hj0 := Option.some.inj hf
    subst hj0
    exact hret _ _ _ _ dX11_ring_75 rfl hP hD hS
  · rw [if_pos c3] at hf
    refine lv_bipush (v := (-2)) hx hb dX11_ring_17 (by decide) ?_
    have hj0 := Option.some.inj hf
    subst hj0
    exact hret _ _ _ _ dX11_ring_19 rfl hP hD hS
theorem K_RX11_301 : KV RX11 301 yX3_clearIn cX3_clearIn 4 (some .int) 1 := ⟨Tg_mem 956 (by decide +kernel) (by decide +kernel), Tg_mem 100 (by decide +kernel) (by decide +kernel), Tg_mem 953 (by decide +kernel) (by decide +kernel), Tg_mem 954 (by decide +kernel) (by decide +kernel), Tg_mem 955 (by decide +kernel) (by decide +kernel), by decide +kernel⟩
theorem dX11_cancel_0 : decode cX11_cancel 0 = .ok (.aload_n 0, 1) := by decide +kernel
theorem dX11_cancel_1 : decode cX11_cancel 1 = .ok (.getfield 91, 3) := by decide +kernel
theorem dX11_cancel_4 : decode cX11_cancel 4 = .ok (.aload_n 0, 1) := by decide +kernel
theorem dX11_cancel_5 : decode cX11_cancel 5 = .ok (.getfield 49, 3) := by decide +kernel
theorem dX11_cancel_8 : decode cX11_cancel 8 = .ok (.getfield 148, 3) := by decide +kernel
theorem dX11_cancel_11 : decode cX11_cancel 11 = .ok (.invokevirtual 284, 3) := by decide +kernel
theorem dX11_cancel_14 : decode cX11_cancel 14 = .ok (.ifCond .ne 6, 3) := by decide +kernel
theorem dX11_cancel_17 : decode cX11_cancel 17 = .ok (.bipush (-2), 2) := by decide +kernel
theorem dX11_cancel_19 : decode cX11_cancel 19 = .ok (.ireturn, 1) := by decide +kernel
theorem dX11_cancel_20 : decode cX11_cancel 20 = .ok (.aload_n 0, 1) := by decide +kernel
theorem dX11_cancel_21 : decode cX11_cancel 21 = .ok (.invokevirtual 208, 3) := by decide +kernel
theorem dX11_cancel_24 : decode cX11_cancel 24 = .ok (.aload_n 0, 1) := by decide +kernel
theorem dX11_cancel_25 : decode cX11_cancel 25 = .ok (.aload_n 0, 1) := by decide +kernel
theorem dX11_cancel_26 : decode cX11_cancel 26 = .ok (.getfield 91, 3) := by decide +kernel
theorem dX11_cancel_29 : decode cX11_cancel 29 = .ok (.aload_n 0, 1) := by decide +kernel
theorem dX11_cancel_30 : decode cX11_cancel 30 = .ok (.getfield 49, 3) := by decide +kernel
theorem dX11_cancel_33 : decode cX11_cancel 33 = .ok (.getfield 148, 3) := by decide +kernel
theorem dX11_cancel_36 : decode cX11_cancel 36 = .ok (.invokevirtual 301, 3) := by decide +kernel
theorem dX11_cancel_39 : decode cX11_cancel 39 = .ok (.invokevirtual 232, 3) := by decide +kernel
theorem dX11_cancel_42 : decode cX11_cancel 42 = .ok (.ireturn, 1) := by decide +kernel
def WX11_cancel (E : ENV) (q0 : Nat) (q0_text : Nat) (q0_town : Nat) (q0_weather : Nat) (q0_rule : Nat) (q0_acts : Nat) (q0_real : Nat) (q0_trial : Nat) (q0_round : Nat) (q0_nights : Nat) (q0_before : Nat) (q0_history : Nat) (q0_kept : Nat) (q0_keptHouses : Nat) (q0_shortest : Nat) (q0_tracks : Nat) (q0_tally : Nat) (q0_told : Nat) (q0_real_state : Nat) (q0_real_owedBy : Nat) (q0_shortest_members : Nat) (q0_shortest_steps : Nat) (q0_real_state_snow : Nat) (q0_real_state_path : Nat) (q0_real_state_debt : Nat) (q0_before_snow : Nat) (q0_before_path : Nat) (q0_before_debt : Nat) (q0_history_states : Nat) (q0_history_states_e0 : Nat) (q0_history_states_e0_snow : Nat) (q0_history_states_e0_path : Nat) (q0_history_states_e0_debt : Nat) (q0_history_states_e1 : Nat) (q0_history_states_e1_snow : Nat) (q0_history_states_e1_path : Nat) (q0_history_states_e1_debt : Nat) (q0_history_states_e2 : Nat) (q0_history_states_e2_snow : Nat) (q0_history_states_e2_path : Nat) (q0_history_states_e2_debt : Nat) (q0_history_states_e3 : Nat) (q0_history_states_e3_snow : Nat) (q0_history_states_e3_path : Nat) (q0_history_states_e3_debt : Nat) (q0_history_states_e4 : Nat) (q0_history_states_e4_snow : Nat) (q0_history_states_e4_path : Nat) (q0_history_states_e4_debt : Nat) (q0_history_states_e5 : Nat) (q0_history_states_e5_snow : Nat) (q0_history_states_e5_path : Nat) (q0_history_states_e5_debt : Nat) (q0_history_states_e6 : Nat) (q0_history_states_e6_snow : Nat) (q0_history_states_e6_path : Nat) (q0_history_states_e6_debt : Nat) (q0_history_states_e7 : Nat) (q0_history_states_e7_snow : Nat) (q0_history_states_e7_path : Nat) (q0_history_states_e7_debt : Nat) (q0_history_states_e8 : Nat) (q0_history_states_e8_snow : Nat) (q0_history_states_e8_path : Nat) (q0_history_states_e8_debt : Nat) (q0_history_states_e9 : Nat) (q0_history_states_e9_snow : Nat) (q0_history_states_e9_path : Nat) (q0_history_states_e9_debt : Nat) (q0_history_states_e10 : Nat) (q0_history_states_e10_snow : Nat) (q0_history_states_e10_path : Nat) (q0_history_states_e10_debt : Nat) (q0_history_states_e11 : Nat) (q0_history_states_e11_snow : Nat) (q0_history_states_e11_path : Nat) (q0_history_states_e11_debt : Nat) (i_toldCount : Int32) (i_real_owed : Int32) (i_real_slides : Int32) (i_real_struck : Int32) (i_real_slid : Int32) (i_shortest_size : Int32) (i_shortest_least : Int32) (i_real_state_now : Int32) (a_shortest_steps : Nat → Int32) (a_shortest_members : Nat → Int32) (a_real_state_debt : Nat → Int32) (i_before_now : Int32) (a_before_snow : Nat → Int32) (a_before_path : Nat → Int32) (a_before_debt : Nat → Int32) (a_real_state_snow : Nat → Int32) (a_real_state_path : Nat → Int32) (a_real_owedBy : Nat → Int32) (i_history_size : Int32) (i_history_next : Int32) (h_history_states_now : Nat → Int32) (H_history_states_snow : Nat → Nat → Int32) (H_history_states_path : Nat → Nat → Int32) (H_history_states_debt : Nat → Nat → Int32) : va_W := [(q0, .inr (11, [.ref q0_text, .ref q0_town, .ref q0_weather, .ref q0_rule, .ref q0_acts, .ref q0_real, .ref q0_trial, .ref q0_round, .ref q0_nights, .ref q0_before, .ref q0_history, .ref q0_kept, .ref q0_keptHouses, .ref q0_shortest, .ref q0_tracks, .ref q0_tally, .ref q0_told, .int i_toldCount])), (q0_real, .inr (9, [.ref q0_town, .ref q0_weather, .ref q0_rule, .ref q0_real_state, .ref q0_real_owedBy, .int i_real_owed, .int i_real_slides, .int i_real_struck, .int i_real_slid])), (q0_shortest, .inr (3, [.ref q0_shortest_members, .ref q0_shortest_steps, .int i_shortest_size, .int i_shortest_least])), (q0_real_state, .inr (5, [.ref q0_real_state_snow, .ref q0_real_state_path, .ref q0_real_state_debt, .int i_real_state_now])), (q0_shortest_steps, .inl (E.2.1, 7, .inl a_shortest_steps)), (q0_shortest_members, .inl (E.2.1, 7, .inl a_shortest_members)), (q0_real_state_debt, .inl (E.2.1, 49, .inl a_real_state_debt)), (q0_before, .inr (5, [.ref q0_before_snow, .ref q0_before_path, .ref q0_before_debt, .int i_before_now])), (q0_before_snow, .inl (E.2.1, 14, .inl a_before_snow)), (q0_before_path, .inl (E.2.1, 7, .inl a_before_path)), (q0_before_debt, .inl (E.2.1, 49, .inl a_before_debt)), (q0_real_state_snow, .inl (E.2.1, 14, .inl a_real_state_snow)), (q0_real_state_path, .inl (E.2.1, 7, .inl a_real_state_path)), (q0_real_owedBy, .inl (E.2.1, 7, .inl a_real_owedBy)), (q0_history, .inr (2, [.ref q0_history_states, .int i_history_size, .int i_history_next])), (q0_history_states_e0, .inr (5, [.ref q0_history_states_e0_snow, .ref q0_history_states_e0_path, .ref q0_history_states_e0_debt, .int (h_history_states_now 0)])), (q0_history_states_e1, .inr (5, [.ref q0_history_states_e1_snow, .ref q0_history_states_e1_path, .ref q0_history_states_e1_debt, .int (h_history_states_now 1)])), (q0_history_states_e2, .inr (5, [.ref q0_history_states_e2_snow, .ref q0_history_states_e2_path, .ref q0_history_states_e2_debt, .int (h_history_states_now 2)])), (q0_history_states_e3, .inr (5, [.ref q0_history_states_e3_snow, .ref q0_history_states_e3_path, .ref q0_history_states_e3_debt, .int (h_history_states_now 3)])), (q0_history_states_e4, .inr (5, [.ref q0_history_states_e4_snow, .ref q0_history_states_e4_path, .ref q0_history_states_e4_debt, .int (h_history_states_now 4)])), (q0_history_states_e5, .inr (5, [.ref q0_history_states_e5_snow, .ref q0_history_states_e5_path, .ref q0_history_states_e5_debt, .int (h_history_states_now 5)])), (q0_history_states_e6, .inr (5, [.ref q0_history_states_e6_snow, .ref q0_history_states_e6_path, .ref q0_history_states_e6_debt, .int (h_history_states_now 6)])), (q0_history_states_e7, .inr (5, [.ref q0_history_states_e7_snow, .ref q0_history_states_e7_path, .ref q0_history_states_e7_debt, .int (h_history_states_now 7)])), (q0_history_states_e8, .inr (5, [.ref q0_history_states_e8_snow, .ref q0_history_states_e8_path, .ref q0_history_states_e8_debt, .int (h_history_states_now 8)])), (q0_history_states_e9, .inr (5, [.ref q0_history_states_e9_snow, .ref q0_history_states_e9_path, .ref q0_history_states_e9_debt, .int (h_history_states_now 9)])), (q0_history_states_e10, .inr (5, [.ref q0_history_states_e10_snow, .ref q0_history_states_e10_path, .ref q0_history_states_e10_debt, .int (h_history_states_now 10)])), (q0_history_states_e11, .inr (5, [.ref q0_history_states_e11_snow, .ref q0_history_states_e11_path, .ref q0_history_states_e11_debt, .int (h_history_states_now 11)])), (q0_history_states, .inl (E.2.2.2.2.1, 12, .inr (.inr (.inr (.inr (fun k => ([q0_history_states_e0, q0_history_states_e1, q0_history_states_e2, q0_history_states_e3, q0_history_states_e4, q0_history_states_e5, q0_history_states_e6, q0_history_states_e7, q0_history_states_e8, q0_history_states_e9, q0_history_states_e10, q0_history_states_e11] : List Nat)[k]?)))))), (q0_history_states_e0_snow, .inl (E.2.1, 14, .inl (H_history_states_snow 0))), (q0_history_states_e0_path, .inl (E.2.1, 7, .inl (H_history_states_path 0))), (q0_history_states_e0_debt, .inl (E.2.1, 49, .inl (H_history_states_debt 0))), (q0_history_states_e1_snow, .inl (E.2.1, 14, .inl (H_history_states_snow 1))), (q0_history_states_e2_snow, .inl (E.2.1, 14, .inl (H_history_states_snow 2))), (q0_history_states_e3_snow, .inl (E.2.1, 14, .inl (H_history_states_snow 3))), (q0_history_states_e4_snow, .inl (E.2.1, 14, .inl (H_history_states_snow 4))), (q0_history_states_e5_snow, .inl (E.2.1, 14, .inl (H_history_states_snow 5))), (q0_history_states_e6_snow, .inl (E.2.1, 14, .inl (H_history_states_snow 6))), (q0_history_states_e7_snow, .inl (E.2.1, 14, .inl (H_history_states_snow 7))), (q0_history_states_e8_snow, .inl (E.2.1, 14, .inl (H_history_states_snow 8))), (q0_history_states_e9_snow, .inl (E.2.1, 14, .inl (H_history_states_snow 9))), (q0_history_states_e10_snow, .inl (E.2.1, 14, .inl (H_history_states_snow 10))), (q0_history_states_e11_snow, .inl (E.2.1, 14, .inl (H_history_states_snow 11))), (q0_history_states_e1_path, .inl (E.2.1, 7, .inl (H_history_states_path 1))), (q0_history_states_e2_path, .inl (E.2.1, 7, .inl (H_history_states_path 2))), (q0_history_states_e3_path, .inl (E.2.1, 7, .inl (H_history_states_path 3))), (q0_history_states_e4_path, .inl (E.2.1, 7, .inl (H_history_states_path 4))), (q0_history_states_e5_path, .inl (E.2.1, 7, .inl (H_history_states_path 5))), (q0_history_states_e6_path, .inl (E.2.1, 7, .inl (H_history_states_path 6))), (q0_history_states_e7_path, .inl (E.2.1, 7, .inl (H_history_states_path 7))), (q0_history_states_e8_path, .inl (E.2.1, 7, .inl (H_history_states_path 8))), (q0_history_states_e9_path, .inl (E.2.1, 7, .inl (H_history_states_path 9))), (q0_history_states_e10_path, .inl (E.2.1, 7, .inl (H_history_states_path 10))), (q0_history_states_e11_path, .inl (E.2.1, 7, .inl (H_history_states_path 11))), (q0_history_states_e1_debt, .inl (E.2.1, 49, .inl (H_history_states_debt 1))), (q0_history_states_e2_debt, .inl (E.2.1, 49, .inl (H_history_states_debt 2))), (q0_history_states_e3_debt, .inl (E.2.1, 49, .inl (H_history_states_debt 3))), (q0_history_states_e4_debt, .inl (E.2.1, 49, .inl (H_history_states_debt 4))), (q0_history_states_e5_debt, .inl (E.2.1, 49, .inl (H_history_states_debt 5))), (q0_history_states_e6_debt, .inl (E.2.1, 49, .inl (H_history_states_debt 6))), (q0_history_states_e7_debt, .inl (E.2.1, 49, .inl (H_history_states_debt 7))), (q0_history_states_e8_debt, .inl (E.2.1, 49, .inl (H_history_states_debt 8))), (q0_history_states_e9_debt, .inl (E.2.1, 49, .inl (H_history_states_debt 9))), (q0_history_states_e10_debt, .inl (E.2.1, 49, .inl (H_history_states_debt 10))), (q0_history_states_e11_debt, .inl (E.2.1, 49, .inl (H_history_states_debt 11)))]
set_option maxHeartbeats 4000000 in
set_option maxRecDepth 20000 in
theorem kX11_cancel (l : Launch) (E : ENV) (q0 : Nat) (q0_text : Nat) (q0_town : Nat) (q0_weather : Nat) (q0_rule : Nat) (q0_acts : Nat) (q0_real : Nat) (q0_trial : Nat) (q0_round : Nat) (q0_nights : Nat) (q0_before : Nat) (q0_history : Nat) (q0_kept : Nat) (q0_keptHouses : Nat) (q0_shortest : Nat) (q0_tracks : Nat) (q0_tally : Nat) (q0_told : Nat) (q0_real_state : Nat) (q0_real_owedBy : Nat) (q0_shortest_members : Nat) (q0_shortest_steps : Nat) (q0_real_state_snow : Nat) (q0_real_state_path : Nat) (q0_real_state_debt : Nat) (q0_before_snow : Nat) (q0_before_path : Nat) (q0_before_debt : Nat) (q0_history_states : Nat) (q0_history_states_e0 : Nat) (q0_history_states_e0_snow : Nat) (q0_history_states_e0_path : Nat) (q0_history_states_e0_debt : Nat) (q0_history_states_e1 : Nat) (q0_history_states_e1_snow : Nat) (q0_history_states_e1_path : Nat) (q0_history_states_e1_debt : Nat) (q0_history_states_e2 : Nat) (q0_history_states_e2_snow : Nat) (q0_history_states_e2_path : Nat) (q0_history_states_e2_debt : Nat) (q0_history_states_e3 : Nat) (q0_history_states_e3_snow : Nat) (q0_history_states_e3_path : Nat) (q0_history_states_e3_debt : Nat) (q0_history_states_e4 : Nat) (q0_history_states_e4_snow : Nat) (q0_history_states_e4_path : Nat) (q0_history_states_e4_debt : Nat) (q0_history_states_e5 : Nat) (q0_history_states_e5_snow : Nat) (q0_history_states_e5_path : Nat) (q0_history_states_e5_debt : Nat) (q0_history_states_e6 : Nat) (q0_history_states_e6_snow : Nat) (q0_history_states_e6_path : Nat) (q0_history_states_e6_debt : Nat) (q0_history_states_e7 : Nat) (q0_history_states_e7_snow : Nat) (q0_history_states_e7_path : Nat) (q0_history_states_e7_debt : Nat) (q0_history_states_e8 : Nat) (q0_history_states_e8_snow : Nat) (q0_history_states_e8_path : Nat) (q0_history_states_e8_debt : Nat) (q0_history_states_e9 : Nat) (q0_history_states_e9_snow : Nat) (q0_history_states_e9_path : Nat) (q0_history_states_e9_debt : Nat) (q0_history_states_e10 : Nat) (q0_history_states_e10_snow : Nat) (q0_history_states_e10_path : Nat) (q0_history_states_e10_debt : Nat) (q0_history_states_e11 : Nat) (q0_history_states_e11_snow : Nat) (q0_history_states_e11_path : Nat) (q0_history_states_e11_debt : Nat) (i_toldCount : Int32) (i_real_owed : Int32) (i_real_slides : Int32) (i_real_struck : Int32) (i_real_slid : Int32) (i_shortest_size : Int32) (i_shortest_least : Int32) (i_real_state_now : Int32) (a_shortest_steps : Nat → Int32) (a_shortest_members : Nat → Int32) (a_real_state_debt : Nat → Int32) (i_before_now : Int32) (a_before_snow : Nat → Int32) (a_before_path : Nat → Int32) (a_before_debt : Nat → Int32) (a_real_state_snow : Nat → Int32) (a_real_state_path : Nat → Int32) (a_real_owedBy : Nat → Int32) (i_history_size : Int32) (i_history_next : Int32) (h_history_states_now : Nat → Int32) (H_history_states_snow : Nat → Nat → Int32) (H_history_states_path : Nat → Nat → Int32) (H_history_states_debt : Nat → Nat → Int32) (o9 : Int32 × Int32 × Int32 × Int32 × Int32 × Int32 × Int32 × (Nat → Int32) × (Nat → Int32) × (Nat → Int32) × Int32 × (Nat → Int32) × (Nat → Int32) × (Nat → Int32) × (Nat → Int32) × Int32 × Int32 × (Nat → Int32) × (Nat → Nat → Int32) × (Nat → Nat → Int32) × (Nat → Nat → Int32)) (hf : fX11_cancel i_real_owed i_real_slides i_real_struck i_real_slid i_shortest_size i_shortest_least i_real_state_now a_shortest_steps a_shortest_members a_real_state_debt i_before_now a_before_snow a_before_path a_before_debt a_real_state_snow a_real_state_path a_real_owedBy i_history_size i_history_next h_history_states_now H_history_states_snow H_history_states_path H_history_states_debt = some o9) : CI l E yX11_cancel cX11_cancel 1 (some .int) 4 [.ref q0] (WX11_cancel E q0 q0_text q0_town q0_weather q0_rule q0_acts q0_real q0_trial q0_round q0_nights q0_before q0_history q0_kept q0_keptHouses q0_shortest q0_tracks q0_tally q0_told q0_real_state q0_real_owedBy q0_shortest_members q0_shortest_steps q0_real_state_snow q0_real_state_path q0_real_state_debt q0_before_snow q0_before_path q0_before_debt q0_history_states q0_history_states_e0 q0_history_states_e0_snow q0_history_states_e0_path q0_history_states_e0_debt q0_history_states_e1 q0_history_states_e1_snow q0_history_states_e1_path q0_history_states_e1_debt q0_history_states_e2 q0_history_states_e2_snow q0_history_states_e2_path q0_history_states_e2_debt q0_history_states_e3 q0_history_states_e3_snow q0_history_states_e3_path q0_history_states_e3_debt q0_history_states_e4 q0_history_states_e4_snow q0_history_states_e4_path q0_history_states_e4_debt q0_history_states_e5 q0_history_states_e5_snow q0_history_states_e5_path q0_history_states_e5_debt q0_history_states_e6 q0_history_states_e6_snow q0_history_states_e6_path q0_history_states_e6_debt q0_history_states_e7 q0_history_states_e7_snow q0_history_states_e7_path q0_history_states_e7_debt q0_history_states_e8 q0_history_states_e8_snow q0_history_states_e8_path q0_history_states_e8_debt q0_history_states_e9 q0_history_states_e9_snow q0_history_states_e9_path q0_history_states_e9_debt q0_history_states_e10 q0_history_states_e10_snow q0_history_states_e10_path q0_history_states_e10_debt q0_history_states_e11 q0_history_states_e11_snow q0_history_states_e11_path q0_history_states_e11_debt i_toldCount i_real_owed i_real_slides i_real_struck i_real_slid i_shortest_size i_shortest_least i_real_state_now a_shortest_steps a_shortest_members a_real_state_debt i_before_now a_before_snow a_before_path a_before_debt a_real_state_snow a_real_state_path a_real_owedBy i_history_size i_history_next h_history_states_now H_history_states_snow H_history_states_path H_history_states_debt) (WX11_cancel E q0 q0_text q0_town q0_weather q0_rule q0_acts q0_real q0_trial q0_round q0_nights q0_before q0_history q0_kept q0_keptHouses q0_shortest q0_tracks q0_tally q0_told q0_real_state q0_real_owedBy q0_shortest_members q0_shortest_steps q0_real_state_snow q0_real_state_path q0_real_state_debt q0_before_snow q0_before_path q0_before_debt q0_history_states q0_history_states_e0 q0_history_states_e0_snow q0_history_states_e0_path q0_history_states_e0_debt q0_history_states_e1 q0_history_states_e1_snow q0_history_states_e1_path q0_history_states_e1_debt q0_history_states_e2 q0_history_states_e2_snow q0_history_states_e2_path q0_history_states_e2_debt q0_history_states_e3 q0_history_states_e3_snow q0_history_states_e3_path q0_history_states_e3_debt q0_history_states_e4 q0_history_states_e4_snow q0_history_states_e4_path q0_history_states_e4_debt q0_history_states_e5 q0_history_states_e5_snow q0_history_states_e5_path q0_history_states_e5_debt q0_history_states_e6 q0_history_states_e6_snow q0_history_states_e6_path q0_history_states_e6_debt q0_history_states_e7 q0_history_states_e7_snow q0_history_states_e7_path q0_history_states_e7_debt q0_history_states_e8 q0_history_states_e8_snow q0_history_states_e8_path q0_history_states_e8_debt q0_history_states_e9 q0_history_states_e9_snow q0_history_states_e9_path q0_history_states_e9_debt q0_history_states_e10 q0_history_states_e10_snow q0_history_states_e10_path q0_history_states_e10_debt q0_history_states_e11 q0_history_states_e11_snow q0_history_states_e11_path q0_history_states_e11_debt i_toldCount o9.2.1 o9.2.2.1 o9.2.2.2.1 o9.2.2.2.2.1 o9.2.2.2.2.2.1 o9.2.2.2.2.2.2.1 i_real_state_now o9.2.2.2.2.2.2.2.1 o9.2.2.2.2.2.2.2.2.1 o9.2.2.2.2.2.2.2.2.2.1 o9.2.2.2.2.2.2.2.2.2.2.1 o9.2.2.2.2.2.2.2.2.2.2.2.1 o9.2.2.2.2.2.2.2.2.2.2.2.2.1 o9.2.2.2.2.2.2.2.2.2.2.2.2.2.1 a_real_state_snow a_real_state_path o9.2.2.2.2.2.2.2.2.2.2.2.2.2.2.1 o9.2.2.2.2.2.2.2.2.2.2.2.2.2.2.2.1 o9.2.2.2.2.2.2.2.2.2.2.2.2.2.2.2.2.1 o9.2.2.2.2.2.2.2.2.2.2.2.2.2.2.2.2.2.1 o9.2.2.2.2.2.2.2.2.2.2.2.2.2.2.2.2.2.2.1 o9.2.2.2.2.2.2.2.2.2.2.2.2.2.2.2.2.2.2.2.1 o9.2.2.2.2.2.2.2.2.2.2.2.2.2.2.2.2.2.2.2.2) o9.1 := by
  refine begI (by decide +kernel) (Nat.le_of_ble_eq_true rfl) ?_
  intro p e s m args below meth c A Q C hA hret
  have hx := C.1
  have hb := C.2.1
  intro H locs ls hl hP hD hS
  have hl : lv_has ls 1 [(0, .ref q0)] := hl
  unfold fX11_cancel at hf
  refine lv_aload_n hx hb dX11_cancel_0 rfl (lv_at hl 0 rfl) ?_
  refine gf_RX11_91 C hP 0 rfl rfl dX11_cancel_1 ?_
  refine lv_aload_n hx hb dX11_cancel_4 rfl (lv_at hl 0 rfl) ?_
  refine gf_RX11_49 C hP 0 rfl rfl dX11_cancel_5 ?_
  refine gf_RX11_148 C hP 1 rfl rfl dX11_cancel_8 ?_
  obtain ⟨o1, hg2, hf⟩ := bd_some hf
  refine k_VI2 (As := [.ref q0_real_state]) C K_RX11_284 (Nat.le_of_ble_eq_true rfl) (Nat.le_of_ble_eq_true rfl) (kX3_find l E q0_shortest q0_shortest_members q0_shortest_steps q0_real_state q0_real_state_snow q0_real_state_path q0_real_state_debt i_shortest_size i_shortest_least a_shortest_steps a_shortest_members i_real_state_now a_real_state_debt o1.1 o1.2.1 o1.2.2.1 o1.2.2.2.1 o1.2.2.2.2 hg2) [2, 4, 5, 3, 6] rfl rfl rfl (ci := 3) rfl rfl (q0 := 0) rfl hP hD hS hA hl.1 (Nat.le_of_ble_eq_true rfl) rfl dX11_cancel_11 (ws2 := (WX11_cancel E q0 q0_text q0_town q0_weather q0_rule q0_acts q0_real q0_trial q0_round q0_nights q0_before q0_history q0_kept q0_keptHouses q0_shortest q0_tracks q0_tally q0_told q0_real_state q0_real_owedBy q0_shortest_members q0_shortest_steps q0_real_state_snow q0_real_state_path q0_real_state_debt q0_before_snow q0_before_path q0_before_debt q0_history_states q0_history_states_e0 q0_history_states_e0_snow q0_history_states_e0_path q0_history_states_e0_debt q0_history_states_e1 q0_history_states_e1_snow q0_history_states_e1_path q0_history_states_e1_debt q0_history_states_e2 q0_history_states_e2_snow q0_history_states_e2_path q0_history_states_e2_debt q0_history_states_e3 q0_history_states_e3_snow q0_history_states_e3_path q0_history_states_e3_debt q0_history_states_e4 q0_history_states_e4_snow q0_history_states_e4_path q0_history_states_e4_debt q0_history_states_e5 q0_history_states_e5_snow q0_history_states_e5_path q0_history_states_e5_debt q0_history_states_e6 q0_history_states_e6_snow q0_history_states_e6_path q0_history_states_e6_debt q0_history_states_e7 q0_history_states_e7_snow q0_history_states_e7_path q0_history_states_e7_debt q0_history_states_e8 q0_history_states_e8_snow q0_history_states_e8_path q0_history_states_e8_debt q0_history_states_e9 q0_history_states_e9_snow q0_history_states_e9_path q0_history_states_e9_debt q0_history_states_e10 q0_history_states_e10_snow q0_history_states_e10_path q0_history_states_e10_debt q0_history_states_e11 q0_history_states_e11_snow q0_history_states_e11_path q0_history_states_e11_debt i_toldCount i_real_owed i_real_slides i_real_struck i_real_slid o1.2.1 o1.2.2.1 i_real_state_now o1.2.2.2.1 o1.2.2.2.2 a_real_state_debt i_before_now a_before_snow a_before_path a_before_debt a_real_state_snow a_real_state_path a_real_owedBy i_history_size i_history_next h_history_states_now H_history_states_snow H_history_states_path H_history_states_debt)) 64 [0, 1, 7, 8, 9, 10, 11, 12, 13, 14, 15, 16, 17, 18, 19, 20, 21, 22, 23, 24, 25, 26, 27, 28, 29, 30, 31, 32, 33, 34, 35, 36, 37, 38, 39, 40, 41, 42, 43, 44, 45, 46, 47, 48, 49, 50, 51, 52, 53, 54, 55, 56, 57, 58, 59, 60, 61, 62, 63] rfl rfl rfl rfl (by decide +kernel) (fun H locs hP hD hS => ?_)
  refine lv_if_ne (tgt := 20) hx hb dX11_cancel_14 (by decide) (fun c3 => ?_) (fun c3 => ?_)
  · rw [if_neg c3] at hf
    refine lv_aload_n hx hb dX11_cancel_20 rfl (lv_at hl 0 rfl) ?_
    obtain ⟨o4, hg5, hf⟩ := bd_some hf
    refine k_VV2 (As := []) C K_RX11_208 (Nat.le_of_ble_eq_true rfl) (Nat.le_of_ble_eq_true rfl) (kX11_startCall l E q0 q0_text q0_town q0_weather q0_rule q0_acts q0_real q0_trial q0_round q0_nights q0_before q0_history q0_kept q0_keptHouses q0_shortest q0_tracks q0_tally q0_told q0_real_state q0_real_owedBy q0_before_snow q0_before_path q0_before_debt q0_real_state_snow q0_real_state_path q0_real_state_debt i_toldCount i_real_owed i_real_slides i_real_struck i_real_slid i_before_now i_real_state_now a_before_snow a_before_path a_before_debt a_real_state_snow a_real_state_path a_real_state_debt a_real_owedBy o4 hg5) [0, 1, 7, 3, 8, 9, 10, 11, 12, 6, 13] rfl rfl rfl (ci := 11) rfl rfl (q0 := 0) rfl hP hD hS hA hl.1 (Nat.le_of_ble_eq_true rfl) rfl dX11_cancel_21 (ws2 := (WX11_cancel E q0 q0_text q0_town q0_weather q0_rule q0_acts q0_real q0_trial q0_round q0_nights q0_before q0_history q0_kept q0_keptHouses q0_shortest q0_tracks q0_tally q0_told q0_real_state q0_real_owedBy q0_shortest_members q0_shortest_steps q0_real_state_snow q0_real_state_path q0_real_state_debt q0_before_snow q0_before_path q0_before_debt q0_history_states q0_history_states_e0 q0_history_states_e0_snow q0_history_states_e0_path q0_history_states_e0_debt q0_history_states_e1 q0_history_states_e1_snow q0_history_states_e1_path q0_history_states_e1_debt q0_history_states_e2 q0_history_states_e2_snow q0_history_states_e2_path q0_history_states_e2_debt q0_history_states_e3 q0_history_states_e3_snow q0_history_states_e3_path q0_history_states_e3_debt q0_history_states_e4 q0_history_states_e4_snow q0_history_states_e4_path q0_history_states_e4_debt q0_history_states_e5 q0_history_states_e5_snow q0_history_states_e5_path q0_history_states_e5_debt q0_history_states_e6 q0_history_states_e6_snow q0_history_states_e6_path q0_history_states_e6_debt q0_history_states_e7 q0_history_states_e7_snow q0_history_states_e7_path q0_history_states_e7_debt q0_history_states_e8 q0_history_states_e8_snow q0_history_states_e8_path q0_history_states_e8_debt q0_history_states_e9 q0_history_states_e9_snow q0_history_states_e9_path q0_history_states_e9_debt q0_history_states_e10 q0_history_states_e10_snow q0_history_states_e10_path q0_history_states_e10_debt q0_history_states_e11 q0_history_states_e11_snow q0_history_states_e11_path q0_history_states_e11_debt i_toldCount o4.1 o4.2.1 o4.2.2.1 o4.2.2.2.1 o1.2.1 o1.2.2.1 i_real_state_now o1.2.2.2.1 o1.2.2.2.2 a_real_state_debt o4.2.2.2.2.1 o4.2.2.2.2.2.1 o4.2.2.2.2.2.2.1 o4.2.2.2.2.2.2.2.1 a_real_state_snow a_real_state_path o4.2.2.2.2.2.2.2.2 i_history_size i_history_next h_history_states_now H_history_states_snow H_history_states_path H_history_states_debt)) 64 [2, 4, 5, 14, 15, 16, 17, 18, 19, 20, 21, 22, 23, 24, 25, 26, 27, 28, 29, 30, 31, 32, 33, 34, 35, 36, 37, 38, 39, 40, 41, 42, 43, 44, 45, 46, 47, 48, 49, 50, 51, 52, 53, 54, 55, 56, 57, 58, 59, 60, 61, 62, 63] rfl rfl rfl rfl (by decide +kernel) (fun H locs hP hD hS => ?_)
    refine lv_aload_n hx hb dX11_cancel_24 rfl (lv_at hl 0 rfl) ?_
    refine lv_aload_n hx hb dX11_cancel_25 rfl (lv_at hl 0 rfl) ?_
    refine gf_RX11_91 C hP 0 rfl rfl dX11_cancel_26 ?_
    refine lv_aload_n hx hb dX11_cancel_29 rfl (lv_at hl 0 rfl) ?_
    refine gf_RX11_49 C hP 0 rfl rfl dX11_cancel_30 ?_
    refine gf_RX11_148 C hP 1 rfl rfl dX11_cancel_33 ?_
    obtain ⟨o6, hg7, hf⟩ := bd_some hf
    refine k_VI2 (As := [.ref q0_real_state]) C K_RX11_301 (Nat.le_of_ble_eq_true rfl) (Nat.le_of_ble_eq_true rfl) (kX3_clearIn l E q0_shortest q0_shortest_members q0_shortest_steps q0_real_state q0_real_state_snow q0_real_state_path q0_real_state_debt o1.2.1 o1.2.2.1 o1.2.2.2.2 i_real_state_now a_real_state_debt o6.1 o6.2 hg7) [2, 5, 3, 6] rfl rfl rfl (ci := 3) rfl rfl (q0 := 0) rfl hP hD hS hA hl.1 (Nat.le_of_ble_eq_true rfl) rfl dX11_cancel_36 (ws2 := (WX11_cancel E q0 q0_text q0_town q0_weather q0_rule q0_acts q0_real q0_trial q0_round q0_nights q0_before q0_history q0_kept q0_keptHouses q0_shortest q0_tracks q0_tally q0_told q0_real_state q0_real_owedBy q0_shortest_members q0_shortest_steps q0_real_state_snow q0_real_state_path q0_real_state_debt q0_before_snow q0_before_path q0_before_debt q0_history_states q0_history_states_e0 q0_history_states_e0_snow q0_history_states_e0_path q0_history_states_e0_debt q0_history_states_e1 q0_history_states_e1_snow q0_history_states_e1_path q0_history_states_e1_debt q0_history_states_e2 q0_history_states_e2_snow q0_history_states_e2_path q0_history_states_e2_debt q0_history_states_e3 q0_history_states_e3_snow q0_history_states_e3_path q0_history_states_e3_debt q0_history_states_e4 q0_history_states_e4_snow q0_history_states_e4_path q0_history_states_e4_debt q0_history_states_e5 q0_history_states_e5_snow q0_history_states_e5_path q0_history_states_e5_debt q0_history_states_e6 q0_history_states_e6_snow q0_history_states_e6_path q0_history_states_e6_debt q0_history_states_e7 q0_history_states_e7_snow q0_history_states_e7_path q0_history_states_e7_debt q0_history_states_e8 q0_history_states_e8_snow q0_history_states_e8_path q0_history_states_e8_debt q0_history_states_e9 q0_history_states_e9_snow q0_history_states_e9_path q0_history_states_e9_debt q0_history_states_e10 q0_history_states_e10_snow q0_history_states_e10_path q0_history_states_e10_debt q0_history_states_e11 q0_history_states_e11_snow q0_history_states_e11_path q0_history_states_e11_debt i_toldCount o4.1 o4.2.1 o4.2.2.1 o4.2.2.2.1 o1.2.1 o1.2.2.1 i_real_state_now o1.2.2.2.1 o1.2.2.2.2 o6.2 o4.2.2.2.2.1 o4.2.2.2.2.2.1 o4.2.2.2.2.2.2.1 o4.2.2.2.2.2.2.2.1 a_real_state_snow a_real_state_path o4.2.2.2.2.2.2.2.2 i_history_size i_history_next h_history_states_now H_history_states_snow H_history_states_path H_history_states_debt)) 64 [0, 1, 4, 7, 8, 9, 10, 11, 12, 13, 14, 15, 16, 17, 18, 19, 20, 21, 22, 23, 24, 25, 26, 27, 28, 29, 30, 31, 32, 33, 34, 35, 36, 37, 38, 39, 40, 41, 42, 43, 44, 45, 46, 47, 48, 49, 50, 51, 52, 53, 54, 55, 56, 57, 58, 59, 60, 61, 62, 63] rfl rfl rfl rfl (by decide +kernel) (fun H locs hP hD hS => ?_)
    obtain ⟨o8, hg9, hf⟩ := bd_some hf
    refine k_VI2 (As := [.int o6.1]) C K_RX11_232 (Nat.le_of_ble_eq_true rfl) (Nat.le_of_ble_eq_true rfl) (kX11_remembered l E q0 q0_text q0_town q0_weather q0_rule q0_acts q0_real q0_trial q0_round q0_nights q0_before q0_history q0_kept q0_keptHouses q0_shortest q0_tracks q0_tally q0_told q0_history_states q0_history_states_e0 q0_history_states_e0_snow q0_history_states_e0_path q0_history_states_e0_debt q0_history_states_e1 q0_history_states_e1_snow q0_history_states_e1_path q0_history_states_e1_debt q0_history_states_e2 q0_history_states_e2_snow q0_history_states_e2_path q0_history_states_e2_debt q0_history_states_e3 q0_history_states_e3_snow q0_history_states_e3_path q0_history_states_e3_debt q0_history_states_e4 q0_history_states_e4_snow q0_history_states_e4_path q0_history_states_e4_debt q0_history_states_e5 q0_history_states_e5_snow q0_history_states_e5_path q0_history_states_e5_debt q0_history_states_e6 q0_history_states_e6_snow q0_history_states_e6_path q0_history_states_e6_debt q0_history_states_e7 q0_history_states_e7_snow q0_history_states_e7_path q0_history_states_e7_debt q0_history_states_e8 q0_history_states_e8_snow q0_history_states_e8_path q0_history_states_e8_debt q0_history_states_e9 q0_history_states_e9_snow q0_history_states_e9_path q0_history_states_e9_debt q0_history_states_e10 q0_history_states_e10_snow q0_history_states_e10_path q0_history_states_e10_debt q0_history_states_e11 q0_history_states_e11_snow q0_history_states_e11_path q0_history_states_e11_debt q0_before_snow q0_before_path q0_before_debt i_toldCount i_history_size i_history_next h_history_states_now o4.2.2.2.2.1 H_history_states_snow H_history_states_path H_history_states_debt o4.2.2.2.2.2.1 o4.2.2.2.2.2.2.1 o4.2.2.2.2.2.2.2.1 o6.1 o8 hg9) [0, 14, 15, 16, 17, 18, 19, 20, 21, 22, 23, 24, 25, 26, 7, 27, 28, 29, 30, 31, 32, 33, 34, 35, 36, 37, 38, 39, 40, 41, 42, 43, 44, 45, 46, 47, 48, 49, 50, 51, 52, 53, 54, 55, 56, 57, 58, 59, 60, 61, 62, 63, 8, 9, 10] rfl rfl rfl (ci := 11) rfl rfl (q0 := 0) rfl hP hD hS hA hl.1 (Nat.le_of_ble_eq_true rfl) rfl dX11_cancel_39 (ws2 := (WX11_cancel E q0 q0_text q0_town q0_weather q0_rule q0_acts q0_real q0_trial q0_round q0_nights q0_before q0_history q0_kept q0_keptHouses q0_shortest q0_tracks q0_tally q0_told q0_real_state q0_real_owedBy q0_shortest_members q0_shortest_steps q0_real_state_snow q0_real_state_path q0_real_state_debt q0_before_snow q0_before_path q0_before_debt q0_history_states q0_history_states_e0 q0_history_states_e0_snow q0_history_states_e0_path q0_history_states_e0_debt q0_history_states_e1 q0_history_states_e1_snow q0_history_states_e1_path q0_history_states_e1_debt q0_history_states_e2 q0_history_states_e2_snow q0_history_states_e2_path q0_history_states_e2_debt q0_history_states_e3 q0_history_states_e3_snow q0_history_states_e3_path q0_history_states_e3_debt q0_history_states_e4 q0_history_states_e4_snow q0_history_states_e4_path q0_history_states_e4_debt q0_history_states_e5 q0_history_states_e5_snow q0_history_states_e5_path q0_history_states_e5_debt q0_history_states_e6 q0_history_states_e6_snow q0_history_states_e6_path q0_history_states_e6_debt q0_history_states_e7 q0_history_states_e7_snow q0_history_states_e7_path q0_history_states_e7_debt q0_history_states_e8 q0_history_states_e8_snow q0_history_states_e8_path q0_history_states_e8_debt q0_history_states_e9 q0_history_states_e9_snow q0_history_states_e9_path q0_history_states_e9_debt q0_history_states_e10 q0_history_states_e10_snow q0_history_states_e10_path q0_history_states_e10_debt q0_history_states_e11 q0_history_states_e11_snow q0_history_states_e11_path q0_history_states_e11_debt i_toldCount o4.1 o4.2.1 o4.2.2.1 o4.2.2.2.1 o1.2.1 o1.2.2.1 i_real_state_now o1.2.2.2.1 o1.2.2.2.2 o6.2 o4.2.2.2.2.1 o4.2.2.2.2.2.1 o4.2.2.2.2.2.2.1 o4.2.2.2.2.2.2.2.1 a_real_state_snow a_real_state_path o4.2.2.2.2.2.2.2.2 o8.2.1 o8.2.2.1 o8.2.2.2.1 o8.2.2.2.2.1 o8.2.2.2.2.2.1 o8.2.2.2.2.2.2)) 64 [1, 2, 3, 4, 5, 6, 11, 12, 13] rfl rfl rfl rfl (by decide +kernel) (fun H locs hP hD hS => ?_)
    have hj0 := Option.some.inj hf
    subst hj0
    exact hret _ _ _ _ dX11_cancel_42 rfl hP hD hS
  · rw [if_pos c3] at hf
    refine lv_bipush (v := (-2)) hx hb dX11_cancel_17 (by decide) ?_
    have hj0 := Option.some.inj hf
    subst hj0
    exact hret _ _ _ _ dX11_cancel_19 rfl hP hD hS
