theorem dX11_sheet_0 : decode cX11_sheet 0 = .ok (.iload_n 1, 1) := by decide +kernel
theorem dX11_sheet_1 : decode cX11_sheet 1 = .ok (.iconst 0, 1) := by decide +kernel
theorem dX11_sheet_2 : decode cX11_sheet 2 = .ok (.iconst 3, 1) := by decide +kernel
theorem dX11_sheet_3 : decode cX11_sheet 3 = .ok (.invokestatic 128, 3) := by decide +kernel
theorem dX11_sheet_6 : decode cX11_sheet 6 = .ok (.ifCond .eq 9, 3) := by decide +kernel
theorem dX11_sheet_9 : decode cX11_sheet 9 = .ok (.iload_n 2, 1) := by decide +kernel
theorem dX11_sheet_10 : decode cX11_sheet 10 = .ok (.bipush 14, 2) := by decide +kernel
theorem dX11_sheet_12 : decode cX11_sheet 12 = .ok (.if_icmp .le 5, 3) := by decide +kernel
theorem dX11_sheet_15 : decode cX11_sheet 15 = .ok (.iconst (-1), 1) := by decide +kernel
theorem dX11_sheet_16 : decode cX11_sheet 16 = .ok (.ireturn, 1) := by decide +kernel
theorem dX11_sheet_17 : decode cX11_sheet 17 = .ok (.iload_n 1, 1) := by decide +kernel
theorem dX11_sheet_18 : decode cX11_sheet 18 = .ok (.iconst 3, 1) := by decide +kernel
theorem dX11_sheet_19 : decode cX11_sheet 19 = .ok (.if_icmp .ne 20, 3) := by decide +kernel
theorem dX11_sheet_22 : decode cX11_sheet 22 = .ok (.aload_n 0, 1) := by decide +kernel
theorem dX11_sheet_23 : decode cX11_sheet 23 = .ok (.getfield 49, 3) := by decide +kernel
theorem dX11_sheet_26 : decode cX11_sheet 26 = .ok (.getfield 148, 3) := by decide +kernel
theorem dX11_sheet_29 : decode cX11_sheet 29 = .ok (.getfield 151, 3) := by decide +kernel
theorem dX11_sheet_32 : decode cX11_sheet 32 = .ok (.iconst 0, 1) := by decide +kernel
theorem dX11_sheet_33 : decode cX11_sheet 33 = .ok (.invokestatic 173, 3) := by decide +kernel
theorem dX11_sheet_36 : decode cX11_sheet 36 = .ok (.bipush (-3), 2) := by decide +kernel
theorem dX11_sheet_38 : decode cX11_sheet 38 = .ok (.ireturn, 1) := by decide +kernel
theorem dX11_sheet_39 : decode cX11_sheet 39 = .ok (.iload_n 2, 1) := by decide +kernel
theorem dX11_sheet_40 : decode cX11_sheet 40 = .ok (.ifCond .ge 6, 3) := by decide +kernel
theorem dX11_sheet_43 : decode cX11_sheet 43 = .ok (.bipush (-2), 2) := by decide +kernel
theorem dX11_sheet_45 : decode cX11_sheet 45 = .ok (.ireturn, 1) := by decide +kernel
theorem dX11_sheet_46 : decode cX11_sheet 46 = .ok (.iconst 0, 1) := by decide +kernel
theorem dX11_sheet_47 : decode cX11_sheet 47 = .ok (.istore 5, 2) := by decide +kernel
theorem dX11_sheet_49 : decode cX11_sheet 49 = .ok (.iconst 0, 1) := by decide +kernel
theorem dX11_sheet_50 : decode cX11_sheet 50 = .ok (.istore 6, 2) := by decide +kernel
theorem dX11_sheet_52 : decode cX11_sheet 52 = .ok (.iload 6, 2) := by decide +kernel
theorem dX11_sheet_54 : decode cX11_sheet 54 = .ok (.iconst 2, 1) := by decide +kernel
theorem dX11_sheet_55 : decode cX11_sheet 55 = .ok (.aload_n 0, 1) := by decide +kernel
theorem dX11_sheet_56 : decode cX11_sheet 56 = .ok (.getfield 19, 3) := by decide +kernel
theorem dX11_sheet_59 : decode cX11_sheet 59 = .ok (.getfield 179, 3) := by decide +kernel
theorem dX11_sheet_62 : decode cX11_sheet 62 = .ok (.imul, 1) := by decide +kernel
theorem dX11_sheet_63 : decode cX11_sheet 63 = .ok (.if_icmp .ge 75, 3) := by decide +kernel
theorem dX11_sheet_66 : decode cX11_sheet 66 = .ok (.iload 6, 2) := by decide +kernel
theorem dX11_sheet_68 : decode cX11_sheet 68 = .ok (.iload_n 2, 1) := by decide +kernel
theorem dX11_sheet_69 : decode cX11_sheet 69 = .ok (.if_icmp .ge 17, 3) := by decide +kernel
theorem dX11_sheet_72 : decode cX11_sheet 72 = .ok (.iload_n 1, 1) := by decide +kernel
theorem dX11_sheet_73 : decode cX11_sheet 73 = .ok (.iload_n 3, 1) := by decide +kernel
theorem dX11_sheet_74 : decode cX11_sheet 74 = .ok (.iload 6, 2) := by decide +kernel
theorem dX11_sheet_76 : decode cX11_sheet 76 = .ok (.iload 4, 2) := by decide +kernel
theorem dX11_sheet_78 : decode cX11_sheet 78 = .ok (.imul, 1) := by decide +kernel
theorem dX11_sheet_79 : decode cX11_sheet 79 = .ok (.iadd, 1) := by decide +kernel
theorem dX11_sheet_80 : decode cX11_sheet 80 = .ok (.invokestatic 183, 3) := by decide +kernel
theorem dX11_sheet_83 : decode cX11_sheet 83 = .ok (.goto 4, 3) := by decide +kernel
theorem dX11_sheet_86 : decode cX11_sheet 86 = .ok (.iconst 0, 1) := by decide +kernel
theorem dX11_sheet_87 : decode cX11_sheet 87 = .ok (.istore 7, 2) := by decide +kernel
theorem dX11_sheet_89 : decode cX11_sheet 89 = .ok (.aload_n 0, 1) := by decide +kernel
theorem dX11_sheet_90 : decode cX11_sheet 90 = .ok (.getfield 49, 3) := by decide +kernel
theorem dX11_sheet_93 : decode cX11_sheet 93 = .ok (.getfield 148, 3) := by decide +kernel
theorem dX11_sheet_96 : decode cX11_sheet 96 = .ok (.getfield 151, 3) := by decide +kernel
theorem dX11_sheet_99 : decode cX11_sheet 99 = .ok (.iload 6, 2) := by decide +kernel
theorem dX11_sheet_101 : decode cX11_sheet 101 = .ok (.iconst 0, 1) := by decide +kernel
theorem dX11_sheet_102 : decode cX11_sheet 102 = .ok (.sipush 999, 3) := by decide +kernel
theorem dX11_sheet_105 : decode cX11_sheet 105 = .ok (.iload 7, 2) := by decide +kernel
theorem dX11_sheet_107 : decode cX11_sheet 107 = .ok (.invokestatic 186, 3) := by decide +kernel
theorem dX11_sheet_110 : decode cX11_sheet 110 = .ok (.invokestatic 191, 3) := by decide +kernel
theorem dX11_sheet_113 : decode cX11_sheet 113 = .ok (.iastore, 1) := by decide +kernel
theorem dX11_sheet_114 : decode cX11_sheet 114 = .ok (.iload 5, 2) := by decide +kernel
theorem dX11_sheet_116 : decode cX11_sheet 116 = .ok (.aload_n 0, 1) := by decide +kernel
theorem dX11_sheet_117 : decode cX11_sheet 117 = .ok (.getfield 49, 3) := by decide +kernel
theorem dX11_sheet_120 : decode cX11_sheet 120 = .ok (.getfield 148, 3) := by decide +kernel
theorem dX11_sheet_123 : decode cX11_sheet 123 = .ok (.getfield 151, 3) := by decide +kernel
theorem dX11_sheet_126 : decode cX11_sheet 126 = .ok (.iload 6, 2) := by decide +kernel
theorem dX11_sheet_128 : decode cX11_sheet 128 = .ok (.iaload, 1) := by decide +kernel
theorem dX11_sheet_129 : decode cX11_sheet 129 = .ok (.iadd, 1) := by decide +kernel
theorem dX11_sheet_130 : decode cX11_sheet 130 = .ok (.istore 5, 2) := by decide +kernel
theorem dX11_sheet_132 : decode cX11_sheet 132 = .ok (.iinc 6 1, 3) := by decide +kernel
theorem dX11_sheet_135 : decode cX11_sheet 135 = .ok (.goto (-83), 3) := by decide +kernel
theorem dX11_sheet_138 : decode cX11_sheet 138 = .ok (.iload 5, 2) := by decide +kernel
theorem dX11_sheet_140 : decode cX11_sheet 140 = .ok (.ireturn, 1) := by decide +kernel
def WX11_sheet (E : ENV) (q0 : Nat) (q0_text : Nat) (q0_town : Nat) (q0_weather : Nat) (q0_rule : Nat) (q0_acts : Nat) (q0_real : Nat) (q0_trial : Nat) (q0_round : Nat) (q0_nights : Nat) (q0_before : Nat) (q0_history : Nat) (q0_kept : Nat) (q0_keptHouses : Nat) (q0_shortest : Nat) (q0_tracks : Nat) (q0_tally : Nat) (q0_told : Nat) (q0_real_state : Nat) (q0_real_owedBy : Nat) (q0_real_state_snow : Nat) (q0_real_state_path : Nat) (q0_real_state_debt : Nat) (q0_town_hold : Nat) (q0_town_below : Nat) (q0_town_hay : Nat) (i_toldCount : Int32) (i_real_owed : Int32) (i_real_slides : Int32) (i_real_struck : Int32) (i_real_slid : Int32) (i_real_state_now : Int32) (a_real_state_snow : Nat → Int32) (i_town_houses : Int32) : va_W := [(q0, .inr (11, [.ref q0_text, .ref q0_town, .ref q0_weather, .ref q0_rule, .ref q0_acts, .ref q0_real, .ref q0_trial, .ref q0_round, .ref q0_nights, .ref q0_before, .ref q0_history, .ref q0_kept, .ref q0_keptHouses, .ref q0_shortest, .ref q0_tracks, .ref q0_tally, .ref q0_told, .int i_toldCount])), (q0_real, .inr (9, [.ref q0_town, .ref q0_weather, .ref q0_rule, .ref q0_real_state, .ref q0_real_owedBy, .int i_real_owed, .int i_real_slides, .int i_real_struck, .int i_real_slid])), (q0_real_state, .inr (5, [.ref q0_real_state_snow, .ref q0_real_state_path, .ref q0_real_state_debt, .int i_real_state_now])), (q0_real_state_snow, .inl (E.2.1, 14, .inl a_real_state_snow)), (q0_town, .inr (7, [.ref q0_town_hold, .ref q0_town_below, .ref q0_town_hay, .int i_town_houses]))]
set_option maxHeartbeats 4000000 in
set_option maxRecDepth 20000 in
theorem kX11_sheet (l : Launch) (E : ENV) (q0 : Nat) (q0_text : Nat) (q0_town : Nat) (q0_weather : Nat) (q0_rule : Nat) (q0_acts : Nat) (q0_real : Nat) (q0_trial : Nat) (q0_round : Nat) (q0_nights : Nat) (q0_before : Nat) (q0_history : Nat) (q0_kept : Nat) (q0_keptHouses : Nat) (q0_shortest : Nat) (q0_tracks : Nat) (q0_tally : Nat) (q0_told : Nat) (q0_real_state : Nat) (q0_real_owedBy : Nat) (q0_real_state_snow : Nat) (q0_real_state_path : Nat) (q0_real_state_debt : Nat) (q0_town_hold : Nat) (q0_town_below : Nat) (q0_town_hay : Nat) (i_toldCount : Int32) (i_real_owed : Int32) (i_real_slides : Int32) (i_real_struck : Int32) (i_real_slid : Int32) (i_real_state_now : Int32) (a_real_state_snow : Nat → Int32) (i_town_houses : Int32) (p1 : Int32) (p2 : Int32) (p3 : Int32) (p4 : Int32) (o9 : Int32 × (Nat → Int32)) (hf : fX11_sheet a_real_state_snow i_town_houses p1 p2 p3 p4 = some o9) : CI l E yX11_sheet cX11_sheet 8 (some .int) 1 [.ref q0, .int p1, .int p2, .int p3, .int p4] (WX11_sheet E q0 q0_text q0_town q0_weather q0_rule q0_acts q0_real q0_trial q0_round q0_nights q0_before q0_history q0_kept q0_keptHouses q0_shortest q0_tracks q0_tally q0_told q0_real_state q0_real_owedBy q0_real_state_snow q0_real_state_path q0_real_state_debt q0_town_hold q0_town_below q0_town_hay i_toldCount i_real_owed i_real_slides i_real_struck i_real_slid i_real_state_now a_real_state_snow i_town_houses) (WX11_sheet E q0 q0_text q0_town q0_weather q0_rule q0_acts q0_real q0_trial q0_round q0_nights q0_before q0_history q0_kept q0_keptHouses q0_shortest q0_tracks q0_tally q0_told q0_real_state q0_real_owedBy q0_real_state_snow q0_real_state_path q0_real_state_debt q0_town_hold q0_town_below q0_town_hay i_toldCount i_real_owed i_real_slides i_real_struck i_real_slid i_real_state_now o9.2 i_town_houses) o9.1 := by
  refine begI (by decide +kernel) (Nat.le_of_ble_eq_true rfl) ?_
  intro p e s m args below meth c A Q C hA hret
  have hx := C.1
  have hb := C.2.1
  have L52 : ∀ (n : Nat) (v5 : Int32) (v6 : Int32) (a_real_state_snow : Nat → Int32) (o : Int32 × (Nat → Int32)), fX11_sheet_L52 i_town_houses p1 p2 p3 p4 n v5 v6 a_real_state_snow = some o → (GO p l e 1 s m args below meth c Q E A 8 138 [] [(5, .int o.1)] (WX11_sheet E q0 q0_text q0_town q0_weather q0_rule q0_acts q0_real q0_trial q0_round q0_nights q0_before q0_history q0_kept q0_keptHouses q0_shortest q0_tracks q0_tally q0_told q0_real_state q0_real_owedBy q0_real_state_snow q0_real_state_path q0_real_state_debt q0_town_hold q0_town_below q0_town_hay i_toldCount i_real_owed i_real_slides i_real_struck i_real_slid i_real_state_now o.2 i_town_houses)) → GO p l e 1 s m args below meth c Q E A 8 52 [] [(0, .ref q0), (1, .int p1), (2, .int p2), (3, .int p3), (4, .int p4), (5, .int v5), (6, .int v6)] (WX11_sheet E q0 q0_text q0_town q0_weather q0_rule q0_acts q0_real q0_trial q0_round q0_nights q0_before q0_history q0_kept q0_keptHouses q0_shortest q0_tracks q0_tally q0_told q0_real_state q0_real_owedBy q0_real_state_snow q0_real_state_path q0_real_state_debt q0_town_hold q0_town_below q0_town_hay i_toldCount i_real_owed i_real_slides i_real_struck i_real_slid i_real_state_now a_real_state_snow i_town_houses) := by
    intro n
    induction n with
    | zero =>
      intro v5 v6 a_real_state_snow o hf
      have hf : none = some o := hf
      cases hf
    | succ n ih =>
      intro v5 v6 a_real_state_snow o hf hE
      have J87 : ∀ (v5 : Int32) (v6 : Int32) (s0 : Int32) (a_real_state_snow : Nat → Int32), fX11_sheet_J87 (fX11_sheet_L52 i_town_houses p1 p2 p3 p4 n) v5 v6 s0 a_real_state_snow = some o → GO p l e 1 s m args below meth c Q E A 8 87 [.int s0] [(0, .ref q0), (1, .int p1), (2, .int p2), (3, .int p3), (4, .int p4), (5, .int v5), (6, .int v6)] (WX11_sheet E q0 q0_text q0_town q0_weather q0_rule q0_acts q0_real q0_trial q0_round q0_nights q0_before q0_history q0_kept q0_keptHouses q0_shortest q0_tracks q0_tally q0_told q0_real_state q0_real_owedBy q0_real_state_snow q0_real_state_path q0_real_state_debt q0_town_hold q0_town_below q0_town_hay i_toldCount i_real_owed i_real_slides i_real_struck i_real_slid i_real_state_now a_real_state_snow i_town_houses) := by
        intro v5 v6 s0 a_real_state_snow hf H locs ls hl hP hD hS
        unfold fX11_sheet_J87 at hf
        refine lv_istore (lv' := [(7, .int s0), (0, .ref q0), (1, .int p1), (2, .int p2), (3, .int p3), (4, .int p4), (5, .int v5), (6, .int v6)]) hx hb dX11_sheet_87 hl (by decide) rfl (fun ls hl => ?_)
        refine lv_aload_n hx hb dX11_sheet_89 rfl (lv_at hl 1 rfl) ?_
        refine gf_RX11_49 C hP 0 rfl rfl dX11_sheet_90 ?_
        refine gf_RX11_148 C hP 1 rfl rfl dX11_sheet_93 ?_
        refine gf_RX11_151 C hP 2 rfl rfl dX11_sheet_96 ?_
        refine lv_iload hx hb dX11_sheet_99 (lv_at hl 7 rfl) ?_
        refine lv_iconst (v := 0) hx hb dX11_sheet_101 (by decide) ?_
        refine lv_sipush (v := 999) hx hb dX11_sheet_102 (by decide) ?_
        refine lv_iload hx hb dX11_sheet_105 (lv_at hl 0 rfl) ?_
        refine r_min C q731 (Nat.le_of_ble_eq_true rfl) hl.1 (Nat.le_of_ble_eq_true rfl) dX11_sheet_107 ?_
        refine r_max C q732 (Nat.le_of_ble_eq_true rfl) hl.1 (Nat.le_of_ble_eq_true rfl) dX11_sheet_110 ?_
        obtain ⟨g9, hf⟩ := gd_some hf
        refine va_iast hx hb C.2.2.2.2.2.1 hP hD hS 3 0 rfl rfl (vin_in g9) dX11_sheet_113 (fun H locs hP hD hS => ?_)
        have hP : va_P E.1 classes (WX11_sheet E q0 q0_text q0_town q0_weather q0_rule q0_acts q0_real q0_trial q0_round q0_nights q0_before q0_history q0_kept q0_keptHouses q0_shortest q0_tracks q0_tally q0_told q0_real_state q0_real_owedBy q0_real_state_snow q0_real_state_path q0_real_state_debt q0_town_hold q0_town_below q0_town_hay i_toldCount i_real_owed i_real_slides i_real_struck i_real_slid i_real_state_now ((upd a_real_state_snow (v6 : Int32).toNatClampNeg ((mx 0 ((mn 999 s0)))))) i_town_houses) H := hP
        have hD : va_D A (WX11_sheet E q0 q0_text q0_town q0_weather q0_rule q0_acts q0_real q0_trial q0_round q0_nights q0_before q0_history q0_kept q0_keptHouses q0_shortest q0_tracks q0_tally q0_told q0_real_state q0_real_owedBy q0_real_state_snow q0_real_state_path q0_real_state_debt q0_town_hold q0_town_below q0_town_hay i_toldCount i_real_owed i_real_slides i_real_struck i_real_slid i_real_state_now ((upd a_real_state_snow (v6 : Int32).toNatClampNeg ((mx 0 ((mn 999 s0)))))) i_town_houses) := hD
        refine lv_iload hx hb dX11_sheet_114 (lv_at hl 6 rfl) ?_
        refine lv_aload_n hx hb dX11_sheet_116 rfl (lv_at hl 1 rfl) ?_
        refine gf_RX11_49 C hP 0 rfl rfl dX11_sheet_117 ?_
        refine gf_RX11_148 C hP 1 rfl rfl dX11_sheet_120 ?_
        refine gf_RX11_151 C hP 2 rfl rfl dX11_sheet_123 ?_
        refine lv_iload hx hb dX11_sheet_126 (lv_at hl 7 rfl) ?_
        obtain ⟨g10, hf⟩ := gd_some hf
        refine va_iald hx hb C.2.2.2.2.2.1 hP 3 0 rfl rfl (vin_in g10) dX11_sheet_128 ?_
        refine lv_iadd hx hb dX11_sheet_129 ?_
        refine lv_istore (lv' := [(5, .int ((v5 + ((((upd a_real_state_snow (v6 : Int32).toNatClampNeg ((mx 0 ((mn 999 s0)))))) (v6 : Int32).toNatClampNeg))))), (7, .int s0), (0, .ref q0), (1, .int p1), (2, .int p2), (3, .int p3), (4, .int p4), (6, .int v6)]) hx hb dX11_sheet_130 hl (by decide) rfl (fun ls hl => ?_)
        refine lv_iinc (v := (v6 + 1)) (lv' := [(6, .int ((v6 + 1))), (5, .int ((v5 + ((((upd a_real_state_snow (v6 : Int32).toNatClampNeg ((mx 0 ((mn 999 s0)))))) (v6 : Int32).toNatClampNeg))))), (7, .int s0), (0, .ref q0), (1, .int p1), (2, .int p2), (3, .int p3), (4, .int p4)]) hx hb dX11_sheet_132 hl (k := 7) rfl rfl (by decide) rfl (fun ls hl => ?_)
        refine lv_goto (tgt := 52) hx hb dX11_sheet_135 (by decide) ?_
        exact ih ((v5 + ((((upd a_real_state_snow (v6 : Int32).toNatClampNeg ((mx 0 ((mn 999 s0)))))) (v6 : Int32).toNatClampNeg)))) ((v6 + 1)) ((upd a_real_state_snow (v6 : Int32).toNatClampNeg ((mx 0 ((mn 999 s0)))))) _ hf hE _ _ _ (lv_sub hl [3, 4, 5, 6, 7, 1, 0] rfl) hP hD hS
      intro H locs ls hl hP hD hS
      rw [fX11_sheet_L52] at hf
      refine lv_iload hx hb dX11_sheet_52 (lv_at hl 6 rfl) ?_
      refine lv_iconst (v := 2) hx hb dX11_sheet_54 (by decide) ?_
      refine lv_aload_n hx hb dX11_sheet_55 rfl (lv_at hl 0 rfl) ?_
      refine gf_RX11_19 C hP 0 rfl rfl dX11_sheet_56 ?_
      refine gf_RX11_179 C hP 4 rfl rfl dX11_sheet_59 ?_
      refine lv_imul hx hb dX11_sheet_62 ?_
      refine lv_icmp_ge (tgt := 138) hx hb dX11_sheet_63 (by decide) (fun c7 => ?_) (fun c7 => ?_)
      · rw [if_pos c7] at hf
        have hf := Option.some.inj hf
        subst hf
        exact hE _ _ _ (lv_sub hl [5] rfl) hP hD hS
      · rw [if_neg c7] at hf
        refine lv_iload hx hb dX11_sheet_66 (lv_at hl 6 rfl) ?_
        refine lv_iload_n hx hb dX11_sheet_68 rfl (lv_at hl 2 rfl) ?_
        refine lv_icmp_ge (tgt := 86) hx hb dX11_sheet_69 (by decide) (fun c8 => ?_) (fun c8 => ?_)
        · rw [if_pos c8] at hf
          refine lv_iconst (v := 0) hx hb dX11_sheet_86 (by decide) ?_
          exact J87 v5 v6 0 a_real_state_snow hf _ _ _ (lv_sub hl [0, 1, 2, 3, 4, 5, 6] rfl) hP hD hS
        · rw [if_neg c8] at hf
          refine lv_iload_n hx hb dX11_sheet_72 rfl (lv_at hl 1 rfl) ?_
          refine lv_iload_n hx hb dX11_sheet_73 rfl (lv_at hl 3 rfl) ?_
          refine lv_iload hx hb dX11_sheet_74 (lv_at hl 6 rfl) ?_
          refine lv_iload hx hb dX11_sheet_76 (lv_at hl 4 rfl) ?_
          refine lv_imul hx hb dX11_sheet_78 ?_
          refine lv_iadd hx hb dX11_sheet_79 ?_
          obtain ⟨o11, hg12, hf⟩ := bd_some hf
          refine k_SI2 (As := [.int p1, .int ((p3 + ((v6 * p4))))]) C K_RX11_183 (Nat.le_of_ble_eq_true rfl) (Nat.le_of_ble_eq_true rfl) (kX11_entryOf l E p1 ((p3 + ((v6 * p4)))) o11 hg12) [] rfl rfl rfl  hP hD hS hA hl.1 (Nat.le_of_ble_eq_true rfl) rfl dX11_sheet_80 (ws2 := (WX11_sheet E q0 q0_text q0_town q0_weather q0_rule q0_acts q0_real q0_trial q0_round q0_nights q0_before q0_history q0_kept q0_keptHouses q0_shortest q0_tracks q0_tally q0_told q0_real_state q0_real_owedBy q0_real_state_snow q0_real_state_path q0_real_state_debt q0_town_hold q0_town_below q0_town_hay i_toldCount i_real_owed i_real_slides i_real_struck i_real_slid i_real_state_now a_real_state_snow i_town_houses)) 5 [0, 1, 2, 3, 4] rfl rfl rfl rfl (by decide +kernel) (fun H locs hP hD hS => ?_)
          refine lv_goto (tgt := 87) hx hb dX11_sheet_83 (by decide) ?_
          exact J87 v5 v6 o11 a_real_state_snow hf _ _ _ (lv_sub hl [0, 1, 2, 3, 4, 5, 6] rfl) hP hD hS
  intro H locs ls hl hP hD hS
  have hl : lv_has ls 8 [(0, .ref q0), (1, .int p1), (2, .int p2), (3, .int p3), (4, .int p4)] := hl
  unfold fX11_sheet at hf
  refine lv_iload_n hx hb dX11_sheet_0 rfl (lv_at hl 1 rfl) ?_
  refine lv_iconst (v := 0) hx hb dX11_sheet_1 (by decide) ?_
  refine lv_iconst (v := 3) hx hb dX11_sheet_2 (by decide) ?_
  obtain ⟨o1, hg2, hf⟩ := bd_some hf
  refine k_SI2 (As := [.int p1, .int 0, .int 3]) C K_RX11_128 (Nat.le_of_ble_eq_true rfl) (Nat.le_of_ble_eq_true rfl) (kX11_isWithin l E p1 0 3 o1 hg2) [] rfl rfl rfl  hP hD hS hA hl.1 (Nat.le_of_ble_eq_true rfl) rfl dX11_sheet_3 (ws2 := (WX11_sheet E q0 q0_text q0_town q0_weather q0_rule q0_acts q0_real q0_trial q0_round q0_nights q0_before q0_history q0_kept q0_keptHouses q0_shortest q0_tracks q0_tally q0_told q0_real_state q0_real_owedBy q0_real_state_snow q0_real_state_path q0_real_state_debt q0_town_hold q0_town_below q0_town_hay i_toldCount i_real_owed i_real_slides i_real_struck i_real_slid i_real_state_now a_real_state_snow i_town_houses)) 5 [0, 1, 2, 3, 4] rfl rfl rfl rfl (by decide +kernel) (fun H locs hP hD hS => ?_)
  refine lv_if_eq (tgt := 15) hx hb dX11_sheet_6 (by decide) (fun c3 => ?_) (fun c3 => ?_)
  · rw [if_pos c3] at hf
    refine lv_iconst (v := (-1)) hx hb dX11_sheet_15 (by decide) ?_
    have hj0 := Option.some.inj hf
    subst hj0
    exact hret _ _ _ _ dX11_sheet_16 rfl hP hD hS
  · rw [if_neg c3] at hf
    refine lv_iload_n hx hb dX11_sheet_9 rfl (lv_at hl 2 rfl) ?_
    refine lv_bipush (v := 14) hx hb dX11_sheet_10 (by decide) ?_
    refine lv_icmp_le (tgt := 17) hx hb dX11_sheet_12 (by decide) (fun c4 => ?_) (fun c4 => ?_)
    · rw [if_pos c4] at hf
      refine lv_iload_n hx hb dX11_sheet_17 rfl (lv_at hl 1 rfl) ?_
      refine lv_iconst (v := 3) hx hb dX11_sheet_18 (by decide) ?_
      refine lv_icmp_ne (tgt := 39) hx hb dX11_sheet_19 (by decide) (fun c5 => ?_) (fun c5 => ?_)
      · rw [if_neg c5] at hf
        refine lv_iload_n hx hb dX11_sheet_39 rfl (lv_at hl 2 rfl) ?_
        refine lv_if_ge (tgt := 46) hx hb dX11_sheet_40 (by decide) (fun c6 => ?_) (fun c6 => ?_)
        · rw [if_pos c6] at hf
          refine lv_iconst (v := 0) hx hb dX11_sheet_46 (by decide) ?_
          refine lv_istore (lv' := [(5, .int 0), (0, .ref q0), (1, .int p1), (2, .int p2), (3, .int p3), (4, .int p4)]) hx hb dX11_sheet_47 hl (by decide) rfl (fun ls hl => ?_)
          refine lv_iconst (v := 0) hx hb dX11_sheet_49 (by decide) ?_
          refine lv_istore (lv' := [(6, .int 0), (5, .int 0), (0, .ref q0), (1, .int p1), (2, .int p2), (3, .int p3), (4, .int p4)]) hx hb dX11_sheet_50 hl (by decide) rfl (fun ls hl => ?_)
          obtain ⟨o13, hg14, hf⟩ := bd_some hf
          refine L52 FU 0 0 a_real_state_snow o13 hg14 ?_ _ _ _ (lv_sub hl [2, 3, 4, 5, 6, 1, 0] rfl) hP hD hS
          intro H locs ls hl hP hD hS
          refine lv_iload hx hb dX11_sheet_138 (lv_at hl 0 rfl) ?_
          have hj0 := Option.some.inj hf
          subst hj0
          exact hret _ _ _ _ dX11_sheet_140 rfl hP hD hS
        · rw [if_neg c6] at hf
          refine lv_bipush (v := (-2)) hx hb dX11_sheet_43 (by decide) ?_
          have hj0 := Option.some.inj hf
          subst hj0
          exact hret _ _ _ _ dX11_sheet_45 rfl hP hD hS
      · rw [if_pos c5] at hf
        refine lv_aload_n hx hb dX11_sheet_22 rfl (lv_at hl 0 rfl) ?_
        refine gf_RX11_49 C hP 0 rfl rfl dX11_sheet_23 ?_
        refine gf_RX11_148 C hP 1 rfl rfl dX11_sheet_26 ?_
        refine gf_RX11_151 C hP 2 rfl rfl dX11_sheet_29 ?_
        refine lv_iconst (v := 0) hx hb dX11_sheet_32 (by decide) ?_
        obtain ⟨o15, hg16, hf⟩ := bd_some hf
        refine k_SV2 (As := [.ref q0_real_state_snow, .int 0]) C K_RX11_173 (Nat.le_of_ble_eq_true rfl) (Nat.le_of_ble_eq_true rfl) (kJ7_fill_53178 l E q0_real_state_snow 14 a_real_state_snow 0 o15 hg16) [3] rfl rfl rfl  hP hD hS hA hl.1 (Nat.le_of_ble_eq_true rfl) rfl dX11_sheet_33 (ws2 := (WX11_sheet E q0 q0_text q0_town q0_weather q0_rule q0_acts q0_real q0_trial q0_round q0_nights q0_before q0_history q0_kept q0_keptHouses q0_shortest q0_tracks q0_tally q0_told q0_real_state q0_real_owedBy q0_real_state_snow q0_real_state_path q0_real_state_debt q0_town_hold q0_town_below q0_town_hay i_toldCount i_real_owed i_real_slides i_real_struck i_real_slid i_real_state_now o15 i_town_houses)) 5 [0, 1, 2, 4] rfl rfl rfl rfl (by decide +kernel) (fun H locs hP hD hS => ?_)
        refine lv_bipush (v := (-3)) hx hb dX11_sheet_36 (by decide) ?_
        have hj0 := Option.some.inj hf
        subst hj0
        exact hret _ _ _ _ dX11_sheet_38 rfl hP hD hS
    · rw [if_neg c4] at hf
      refine lv_iconst (v := (-1)) hx hb dX11_sheet_15 (by decide) ?_
      have hj0 := Option.some.inj hf
      subst hj0
      exact hret _ _ _ _ dX11_sheet_16 rfl hP hD hS
theorem q423 : Cond.fieldLink RX11 288 "SnowForSummer" "toldCount" "I" ∈ Tg := Tg_mem 423 (by decide +kernel) (by decide +kernel)
theorem gf_RX11_288 {p : Program} {l : Launch} {e : Env} {R : Room} {s : State} {m : MethodId} {args : Array Value} {below : List Frame} {meth : Method} {c : Code} {H : Heap} {locs : List Loc} {cells slots : Nat} {Q : State → Prop} {E : ENV} {cc : ByteArray} {n : Nat} {r : Option FieldType} {pc : Nat} {ls : Array Slot} {rest : List Value} {a : Nat} {ws : va_W} {nm ds : String} {fs : List Value} {A : Nat → Prop} {v : Value} (C : Cx E A ⟨RX11, nm, ds⟩ cc n r p s m args meth c) (hP : va_P E.1 classes ws H) (q0 : Nat) (he : ws[q0]? = some (a, .inr (11, fs))) (hv : fs[17]? = some v) (hdg : decode cc pc = .ok (.getfield 288, 3))
    (kk : W p l e R s m args below meth c H locs cells slots Q (F0 m (pc + 3) ls (v :: rest))) : W p l e R s m args below meth c H locs cells slots Q (F0 m pc ls (.ref a :: rest)) :=
  va_get (C := RX11) (T := TX11) (N := 18) (Ts := wl ⟨RX11, nm, ds⟩ cc n r) C.1 C.2.1 C.2.2.2.2.1 (fun w h => List.mem_cons_of_mem _ (inT11 w h)) C.2.2.2.1 C.2.2.2.2.2.1 hP q0 he rfl 17 (by decide) (C.2.2.2.2.1 _ (List.mem_cons_of_mem _ q423)) (fun _ h9 => h9) hv hdg kk
theorem q422 : Cond.fieldLink RX11 105 "SnowForSummer" "told" "[I" ∈ Tg := Tg_mem 422 (by decide +kernel) (by decide +kernel)
theorem gf_RX11_105 {p : Program} {l : Launch} {e : Env} {R : Room} {s : State} {m : MethodId} {args : Array Value} {below : List Frame} {meth : Method} {c : Code} {H : Heap} {locs : List Loc} {cells slots : Nat} {Q : State → Prop} {E : ENV} {cc : ByteArray} {n : Nat} {r : Option FieldType} {pc : Nat} {ls : Array Slot} {rest : List Value} {a : Nat} {ws : va_W} {nm ds : String} {fs : List Value} {A : Nat → Prop} {v : Value} (C : Cx E A ⟨RX11, nm, ds⟩ cc n r p s m args meth c) (hP : va_P E.1 classes ws H) (q0 : Nat) (he : ws[q0]? = some (a, .inr (11, fs))) (hv : fs[16]? = some v) (hdg : decode cc pc = .ok (.getfield 105, 3))
    (kk : W p l e R s m args below meth c H locs cells slots Q (F0 m (pc + 3) ls (v :: rest))) : W p l e R s m args below meth c H locs cells slots Q (F0 m pc ls (.ref a :: rest)) :=
  va_get (C := RX11) (T := TX11) (N := 18) (Ts := wl ⟨RX11, nm, ds⟩ cc n r) C.1 C.2.1 C.2.2.2.2.1 (fun w h => List.mem_cons_of_mem _ (inT11 w h)) C.2.2.2.1 C.2.2.2.2.2.1 hP q0 he rfl 16 (by decide) (C.2.2.2.2.1 _ (List.mem_cons_of_mem _ q422)) (fun _ h9 => h9) hv hdg kk
theorem pf_RX11_288 {p : Program} {l : Launch} {e : Env} {R : Room} {s : State} {m : MethodId} {args : Array Value} {below : List Frame} {meth : Method} {c : Code} {H : Heap} {locs : List Loc} {cells slots : Nat} {Q : State → Prop} {E : ENV} {cc : ByteArray} {n : Nat} {r : Option FieldType} {pc : Nat} {ls : Array Slot} {rest : List Value} {a : Nat} {ws : va_W} {nm ds : String} {fs : List Value} {A : Nat → Prop} {H0 : Heap} {x : Int32} (C : Cx E A ⟨RX11, nm, ds⟩ cc n r p s m args meth c) (hP : va_P E.1 classes ws H) (hD : va_D A ws) (hS : va_S A H0 H locs) (q0 : Nat) (he : ws[q0]? = some (a, .inr (11, fs))) (hl : 17 < fs.length) (hdg : decode cc pc = .ok (.putfield 288, 3))
    (kk : ∀ (H1 : Heap) (locs1 : List Loc), va_P E.1 classes (ws.set q0 (a, .inr (11, fs.set 17 (.int x)))) H1 → va_D A (ws.set q0 (a, .inr (11, fs.set 17 (.int x)))) → va_S A H0 H1 locs1 → W p l e R s m args below meth c H1 locs1 cells slots Q (F0 m (pc + 3) ls rest)) : W p l e R s m args below meth c H locs cells slots Q (F0 m pc ls (.int x :: .ref a :: rest)) :=
  va_put (C := RX11) (T := TX11) (N := 18) (ty := .int) (Ts := wl ⟨RX11, nm, ds⟩ cc n r) C.1 C.2.1 C.2.2.2.2.1 (fun w h => List.mem_cons_of_mem _ (inT11 w h)) tyX11 tyX11_ok nmX11 C.2.2.2.1 C.2.2.2.2.2.1 hP hD hS q0 he rfl 17 (by decide) (C.2.2.2.2.1 _ (List.mem_cons_of_mem _ q423)) (fun _ h9 => h9) rfl (by decide +kernel) rfl rfl hl hdg kk
theorem dX11_tellMore_0 : decode cX11_tellMore 0 = .ok (.aload_n 0, 1) := by decide +kernel
theorem dX11_tellMore_1 : decode cX11_tellMore 1 = .ok (.getfield 288, 3) := by decide +kernel
theorem dX11_tellMore_4 : decode cX11_tellMore 4 = .ok (.bipush 8, 2) := by decide +kernel
theorem dX11_tellMore_6 : decode cX11_tellMore 6 = .ok (.if_icmp .ge 23, 3) := by decide +kernel
theorem dX11_tellMore_9 : decode cX11_tellMore 9 = .ok (.aload_n 0, 1) := by decide +kernel
theorem dX11_tellMore_10 : decode cX11_tellMore 10 = .ok (.getfield 105, 3) := by decide +kernel
theorem dX11_tellMore_13 : decode cX11_tellMore 13 = .ok (.aload_n 0, 1) := by decide +kernel
theorem dX11_tellMore_14 : decode cX11_tellMore 14 = .ok (.getfield 288, 3) := by decide +kernel
theorem dX11_tellMore_17 : decode cX11_tellMore 17 = .ok (.iload_n 1, 1) := by decide +kernel
theorem dX11_tellMore_18 : decode cX11_tellMore 18 = .ok (.iastore, 1) := by decide +kernel
theorem dX11_tellMore_19 : decode cX11_tellMore 19 = .ok (.aload_n 0, 1) := by decide +kernel
theorem dX11_tellMore_20 : decode cX11_tellMore 20 = .ok (.dup, 1) := by decide +kernel
theorem dX11_tellMore_21 : decode cX11_tellMore 21 = .ok (.getfield 288, 3) := by decide +kernel
theorem dX11_tellMore_24 : decode cX11_tellMore 24 = .ok (.iconst 1, 1) := by decide +kernel
theorem dX11_tellMore_25 : decode cX11_tellMore 25 = .ok (.iadd, 1) := by decide +kernel
theorem dX11_tellMore_26 : decode cX11_tellMore 26 = .ok (.putfield 288, 3) := by decide +kernel
theorem dX11_tellMore_29 : decode cX11_tellMore 29 = .ok (.return_, 1) := by decide +kernel
def WX11_tellMore (E : ENV) (q0 : Nat) (q0_text : Nat) (q0_town : Nat) (q0_weather : Nat) (q0_rule : Nat) (q0_acts : Nat) (q0_real : Nat) (q0_trial : Nat) (q0_round : Nat) (q0_nights : Nat) (q0_before : Nat) (q0_history : Nat) (q0_kept : Nat) (q0_keptHouses : Nat) (q0_shortest : Nat) (q0_tracks : Nat) (q0_tally : Nat) (q0_told : Nat) (i_toldCount : Int32) (a_told : Nat → Int32) : va_W := [(q0, .inr (11, [.ref q0_text, .ref q0_town, .ref q0_weather, .ref q0_rule, .ref q0_acts, .ref q0_real, .ref q0_trial, .ref q0_round, .ref q0_nights, .ref q0_before, .ref q0_history, .ref q0_kept, .ref q0_keptHouses, .ref q0_shortest, .ref q0_tracks, .ref q0_tally, .ref q0_told, .int i_toldCount])), (q0_told, .inl (E.2.1, 8, .inl a_told))]
set_option maxHeartbeats 4000000 in
set_option maxRecDepth 20000 in
theorem kX11_tellMore (l : Launch) (E : ENV) (q0 : Nat) (q0_text : Nat) (q0_town : Nat) (q0_weather : Nat) (q0_rule : Nat) (q0_acts : Nat) (q0_real : Nat) (q0_trial : Nat) (q0_round : Nat) (q0_nights : Nat) (q0_before : Nat) (q0_history : Nat) (q0_kept : Nat) (q0_keptHouses : Nat) (q0_shortest : Nat) (q0_tracks : Nat) (q0_tally : Nat) (q0_told : Nat) (i_toldCount : Int32) (a_told : Nat → Int32) (p1 : Int32) (o9 : Int32 × (Nat → Int32)) (hf : fX11_tellMore i_toldCount a_told p1 = some o9) : CV l E yX11_tellMore cX11_tellMore 2 0 [.ref q0, .int p1] (WX11_tellMore E q0 q0_text q0_town q0_weather q0_rule q0_acts q0_real q0_trial q0_round q0_nights q0_before q0_history q0_kept q0_keptHouses q0_shortest q0_tracks q0_tally q0_told i_toldCount a_told) (WX11_tellMore E q0 q0_text q0_town q0_weather q0_rule q0_acts q0_real q0_trial q0_round q0_nights q0_before q0_history q0_kept q0_keptHouses q0_shortest q0_tracks q0_tally q0_told o9.1 o9.2) := by
  refine begV (by decide +kernel) (Nat.le_of_ble_eq_true rfl) ?_
  intro p e s m args below meth c A Q C hA hret
  have hx := C.1
  have hb := C.2.1
  intro H locs ls hl hP hD hS
  have hl : lv_has ls 2 [(0, .ref q0), (1, .int p1)] := hl
  unfold fX11_tellMore at hf
  refine lv_aload_n hx hb dX11_tellMore_0 rfl (lv_at hl 0 rfl) ?_
  refine gf_RX11_288 C hP 0 rfl rfl dX11_tellMore_1 ?_
  refine lv_bipush (v := 8) hx hb dX11_tellMore_4 (by decide) ?_
  refine lv_icmp_ge (tgt := 29) hx hb dX11_tellMore_6 (by decide) (fun c1 => ?_) (fun c1 => ?_)
  · rw [if_pos c1] at hf
    have hj0 := Option.some.inj hf
    subst hj0
    exact hret _ _ _ _ dX11_tellMore_29 hP hD hS
  · rw [if_neg c1] at hf
    refine lv_aload_n hx hb dX11_tellMore_9 rfl (lv_at hl 0 rfl) ?_
    refine gf_RX11_105 C hP 0 rfl rfl dX11_tellMore_10 ?_
    refine lv_aload_n hx hb dX11_tellMore_13 rfl (lv_at hl 0 rfl) ?_
    refine gf_RX11_288 C hP 0 rfl rfl dX11_tellMore_14 ?_
    refine lv_iload_n hx hb dX11_tellMore_17 rfl (lv_at hl 1 rfl) ?_
    obtain ⟨g2, hf⟩ := gd_some hf
    refine va_iast hx hb C.2.2.2.2.2.1 hP hD hS 1 0 rfl rfl (vin_in g2) dX11_tellMore_18 (fun H locs hP hD hS => ?_)
    have hP : va_P E.1 classes (WX11_tellMore E q0 q0_text q0_town q0_weather q0_rule q0_acts q0_real q0_trial q0_round q0_nights q0_before q0_history q0_kept q0_keptHouses q0_shortest q0_tracks q0_tally q0_told i_toldCount ((upd a_told (i_toldCount : Int32).toNatClampNeg p1))) H := hP
    have hD : va_D A (WX11_tellMore E q0 q0_text q0_town q0_weather q0_rule q0_acts q0_real q0_trial q0_round q0_nights q0_before q0_history q0_kept q0_keptHouses q0_shortest q0_tracks q0_tally q0_told i_toldCount ((upd a_told (i_toldCount : Int32).toNatClampNeg p1))) := hD
    refine lv_aload_n hx hb dX11_tellMore_19 rfl (lv_at hl 0 rfl) ?_
    refine lv_dup hx hb dX11_tellMore_20 rfl ?_
    refine gf_RX11_288 C hP 0 rfl rfl dX11_tellMore_21 ?_
    refine lv_iconst (v := 1) hx hb dX11_tellMore_24 (by decide) ?_
    refine lv_iadd hx hb dX11_tellMore_25 ?_
    refine pf_RX11_288 C hP hD hS 0 rfl (Nat.le_of_ble_eq_true rfl) dX11_tellMore_26 (fun H locs hP hD hS => ?_)
    have hP : va_P E.1 classes (WX11_tellMore E q0 q0_text q0_town q0_weather q0_rule q0_acts q0_real q0_trial q0_round q0_nights q0_before q0_history q0_kept q0_keptHouses q0_shortest q0_tracks q0_tally q0_told ((i_toldCount + 1)) ((upd a_told (i_toldCount : Int32).toNatClampNeg p1))) H := hP
    have hD : va_D A (WX11_tellMore E q0 q0_text q0_town q0_weather q0_rule q0_acts q0_real q0_trial q0_round q0_nights q0_before q0_history q0_kept q0_keptHouses q0_shortest q0_tracks q0_tally q0_told ((i_toldCount + 1)) ((upd a_told (i_toldCount : Int32).toNatClampNeg p1))) := hD
    have hj0 := Option.some.inj hf
    subst hj0
    exact hret _ _ _ _ dX11_tellMore_29 hP hD hS
theorem K_RX11_295 : KV RX11 295 yX11_tellMore cX11_tellMore 2 none 1 := ⟨Tg_mem 748 (by decide +kernel) (by decide +kernel), Tg_mem 90 (by decide +kernel) (by decide +kernel), Tg_mem 745 (by decide +kernel) (by decide +kernel), Tg_mem 747 (by decide +kernel) (by decide +kernel), Tg_mem 11 (by decide +kernel) (by decide +kernel), by decide +kernel⟩
theorem dX11_tell_0 : decode cX11_tell 0 = .ok (.aload_n 0, 1) := by decide +kernel
theorem dX11_tell_1 : decode cX11_tell 1 = .ok (.iconst 0, 1) := by decide +kernel
theorem dX11_tell_2 : decode cX11_tell 2 = .ok (.putfield 288, 3) := by decide +kernel
theorem dX11_tell_5 : decode cX11_tell 5 = .ok (.aload_n 0, 1) := by decide +kernel
theorem dX11_tell_6 : decode cX11_tell 6 = .ok (.iload_n 1, 1) := by decide +kernel
theorem dX11_tell_7 : decode cX11_tell 7 = .ok (.invokevirtual 295, 3) := by decide +kernel
theorem dX11_tell_10 : decode cX11_tell 10 = .ok (.return_, 1) := by decide +kernel
def WX11_tell (E : ENV) (q0 : Nat) (q0_text : Nat) (q0_town : Nat) (q0_weather : Nat) (q0_rule : Nat) (q0_acts : Nat) (q0_real : Nat) (q0_trial : Nat) (q0_round : Nat) (q0_nights : Nat) (q0_before : Nat) (q0_history : Nat) (q0_kept : Nat) (q0_keptHouses : Nat) (q0_shortest : Nat) (q0_tracks : Nat) (q0_tally : Nat) (q0_told : Nat) (i_toldCount : Int32) (a_told : Nat → Int32) : va_W := [(q0, .inr (11, [.ref q0_text, .ref q0_town, .ref q0_weather, .ref q0_rule, .ref q0_acts, .ref q0_real, .ref q0_trial, .ref q0_round, .ref q0_nights, .ref q0_before, .ref q0_history, .ref q0_kept, .ref q0_keptHouses, .ref q0_shortest, .ref q0_tracks, .ref q0_tally, .ref q0_told, .int i_toldCount])), (q0_told, .inl (E.2.1, 8, .inl a_told))]
set_option maxHeartbeats 4000000 in
set_option maxRecDepth 20000 in
theorem kX11_tell (l : Launch) (E : ENV) (q0 : Nat) (q0_text : Nat) (q0_town : Nat) (q0_weather : Nat) (q0_rule : Nat) (q0_acts : Nat) (q0_real : Nat) (q0_trial : Nat) (q0_round : Nat) (q0_nights : Nat) (q0_before : Nat) (q0_history : Nat) (q0_kept : Nat) (q0_keptHouses : Nat) (q0_shortest : Nat) (q0_tracks : Nat) (q0_tally : Nat) (q0_told : Nat) (i_toldCount : Int32) (a_told : Nat → Int32) (p1 : Int32) (o9 : Int32 × (Nat → Int32)) (hf : fX11_tell i_toldCount a_told p1 = some o9) : CV l E yX11_tell cX11_tell 2 1 [.ref q0, .int p1] (WX11_tell E q0 q0_text q0_town q0_weather q0_rule q0_acts q0_real q0_trial q0_round q0_nights q0_before q0_history q0_kept q0_keptHouses q0_shortest q0_tracks q0_tally q0_told i_toldCount a_told) (WX11_tell E q0 q0_text q0_town q0_weather q0_rule q0_acts q0_real q0_trial q0_round q0_nights q0_before q0_history q0_kept q0_keptHouses q0_shortest q0_tracks q0_tally q0_told o9.1 o9.2) := by
  refine begV (by decide +kernel) (Nat.le_of_ble_eq_true rfl) ?_
  intro p e s m args below meth c A Q C hA hret
  have hx := C.1
  have hb := C.2.1
  intro H locs ls hl hP hD hS
  have hl : lv_has ls 2 [(0, .ref q0), (1, .int p1)] := hl
  unfold fX11_tell at hf
  refine lv_aload_n hx hb dX11_tell_0 rfl (lv_at hl 0 rfl) ?_
  refine lv_iconst (v := 0) hx hb dX11_tell_1 (by decide) ?_
  refine pf_RX11_288 C hP hD hS 0 rfl (Nat.le_of_ble_eq_true rfl) dX11_tell_2 (fun H locs hP hD hS => ?_)
  have hP : va_P E.1 classes (WX11_tell E q0 q0_text q0_town q0_weather q0_rule q0_acts q0_real q0_trial q0_round q0_nights q0_before q0_history q0_kept q0_keptHouses q0_shortest q0_tracks q0_tally q0_told 0 a_told) H := hP
  have hD : va_D A (WX11_tell E q0 q0_text q0_town q0_weather q0_rule q0_acts q0_real q0_trial q0_round q0_nights q0_before q0_history q0_kept q0_keptHouses q0_shortest q0_tracks q0_tally q0_told 0 a_told) := hD
  refine lv_aload_n hx hb dX11_tell_5 rfl (lv_at hl 0 rfl) ?_
  refine lv_iload_n hx hb dX11_tell_6 rfl (lv_at hl 1 rfl) ?_
  obtain ⟨o1, hg2, hf⟩ := bd_some hf
  refine k_VV2 (As := [.int p1]) C K_RX11_295 (Nat.le_of_ble_eq_true rfl) (Nat.le_of_ble_eq_true rfl) (kX11_tellMore l E q0 q0_text q0_town q0_weather q0_rule q0_acts q0_real q0_trial q0_round q0_nights q0_before q0_history q0_kept q0_keptHouses q0_shortest q0_tracks q0_tally q0_told 0 a_told p1 o1 hg2) [0, 1] rfl rfl rfl (ci := 11) rfl rfl (q0 := 0) rfl hP hD hS hA hl.1 (Nat.le_of_ble_eq_true rfl) rfl dX11_tell_7 (ws2 := (WX11_tell E q0 q0_text q0_town q0_weather q0_rule q0_acts q0_real q0_trial q0_round q0_nights q0_before q0_history q0_kept q0_keptHouses q0_shortest q0_tracks q0_tally q0_told o1.1 o1.2)) 2 [] rfl rfl rfl rfl (by decide +kernel) (fun H locs hP hD hS => ?_)
  have hj0 := Option.some.inj hf
  subst hj0
  exact hret _ _ _ _ dX11_tell_10 hP hD hS
theorem K_RX11_244 : KV RX11 244 yX11_tell cX11_tell 2 none 1 := ⟨Tg_mem 744 (by decide +kernel) (by decide +kernel), Tg_mem 90 (by decide +kernel) (by decide +kernel), Tg_mem 741 (by decide +kernel) (by decide +kernel), Tg_mem 743 (by decide +kernel) (by decide +kernel), Tg_mem 10 (by decide +kernel) (by decide +kernel), by decide +kernel⟩
theorem dX11_tell__0 : decode cX11_tell_ 0 = .ok (.aload_n 0, 1) := by decide +kernel
theorem dX11_tell__1 : decode cX11_tell_ 1 = .ok (.iload_n 1, 1) := by decide +kernel
theorem dX11_tell__2 : decode cX11_tell_ 2 = .ok (.invokevirtual 244, 3) := by decide +kernel
theorem dX11_tell__5 : decode cX11_tell_ 5 = .ok (.aload_n 0, 1) := by decide +kernel
theorem dX11_tell__6 : decode cX11_tell_ 6 = .ok (.iload_n 2, 1) := by decide +kernel
theorem dX11_tell__7 : decode cX11_tell_ 7 = .ok (.invokevirtual 295, 3) := by decide +kernel
theorem dX11_tell__10 : decode cX11_tell_ 10 = .ok (.return_, 1) := by decide +kernel
def WX11_tell_ (E : ENV) (q0 : Nat) (q0_text : Nat) (q0_town : Nat) (q0_weather : Nat) (q0_rule : Nat) (q0_acts : Nat) (q0_real : Nat) (q0_trial : Nat) (q0_round : Nat) (q0_nights : Nat) (q0_before : Nat) (q0_history : Nat) (q0_kept : Nat) (q0_keptHouses : Nat) (q0_shortest : Nat) (q0_tracks : Nat) (q0_tally : Nat) (q0_told : Nat) (i_toldCount : Int32) (a_told : Nat → Int32) : va_W := [(q0, .inr (11, [.ref q0_text, .ref q0_town, .ref q0_weather, .ref q0_rule, .ref q0_acts, .ref q0_real, .ref q0_trial, .ref q0_round, .ref q0_nights, .ref q0_before, .ref q0_history, .ref q0_kept, .ref q0_keptHouses, .ref q0_shortest, .ref q0_tracks, .ref q0_tally, .ref q0_told, .int i_toldCount])), (q0_told, .inl (E.2.1, 8, .inl a_told))]
set_option maxHeartbeats 4000000 in
set_option maxRecDepth 20000 in
theorem kX11_tell_ (l : Launch) (E : ENV) (q0 : Nat) (q0_text : Nat) (q0_town : Nat) (q0_weather : Nat) (q0_rule : Nat) (q0_acts : Nat) (q0_real : Nat) (q0_trial : Nat) (q0_round : Nat) (q0_nights : Nat) (q0_before : Nat) (q0_history : Nat) (q0_kept : Nat) (q0_keptHouses : Nat) (q0_shortest : Nat) (q0_tracks : Nat) (q0_tally : Nat) (q0_told : Nat) (i_toldCount : Int32) (a_told : Nat → Int32) (p1 : Int32) (p2 : Int32) (o9 : Int32 × (Nat → Int32)) (hf : fX11_tell_ i_toldCount a_told p1 p2 = some o9) : CV l E yX11_tell_ cX11_tell_ 3 2 [.ref q0, .int p1, .int p2] (WX11_tell_ E q0 q0_text q0_town q0_weather q0_rule q0_acts q0_real q0_trial q0_round q0_nights q0_before q0_history q0_kept q0_keptHouses q0_shortest q0_tracks q0_tally q0_told i_toldCount a_told) (WX11_tell_ E q0 q0_text q0_town q0_weather q0_rule q0_acts q0_real q0_trial q0_round q0_nights q0_before q0_history q0_kept q0_keptHouses q0_shortest q0_tracks q0_tally q0_told o9.1 o9.2) := by
  refine begV (by decide +kernel) (Nat.le_of_ble_eq_true rfl) ?_
  intro p e s m args below meth c A Q C hA hret
  have hx := C.1
  have hb := C.2.1
  intro H locs ls hl hP hD hS
  have hl : lv_has ls 3 [(0, .ref q0), (1, .int p1), (2, .int p2)] := hl
  unfold fX11_tell_ at hf
  refine lv_aload_n hx hb dX11_tell__0 rfl (lv_at hl 0 rfl) ?_
  refine lv_iload_n hx hb dX11_tell__1 rfl (lv_at hl 1 rfl) ?_
  obtain ⟨o1, hg2, hf⟩ := bd_some hf
  refine k_VV2 (As := [.int p1]) C K_RX11_244 (Nat.le_of_ble_eq_true rfl) (Nat.le_of_ble_eq_true rfl) (kX11_tell l E q0 q0_text q0_town q0_weather q0_rule q0_acts q0_real q0_trial q0_round q0_nights q0_before q0_history q0_kept q0_keptHouses q0_shortest q0_tracks q0_tally q0_told i_toldCount a_told p1 o1 hg2) [0, 1] rfl rfl rfl (ci := 11) rfl rfl (q0 := 0) rfl hP hD hS hA hl.1 (Nat.le_of_ble_eq_true rfl) rfl dX11_tell__2 (ws2 := (WX11_tell_ E q0 q0_text q0_town q0_weather q0_rule q0_acts q0_real q0_trial q0_round q0_nights q0_before q0_history q0_kept q0_keptHouses q0_shortest q0_tracks q0_tally q0_told o1.1 o1.2)) 2 [] rfl rfl rfl rfl (by decide +kernel) (fun H locs hP hD hS => ?_)
  refine lv_aload_n hx hb dX11_tell__5 rfl (lv_at hl 0 rfl) ?_
  refine lv_iload_n hx hb dX11_tell__6 rfl (lv_at hl 2 rfl) ?_
  obtain ⟨o3, hg4, hf⟩ := bd_some hf
  refine k_VV2 (As := [.int p2]) C K_RX11_295 (Nat.le_of_ble_eq_true rfl) (Nat.le_of_ble_eq_true rfl) (kX11_tellMore l E q0 q0_text q0_town q0_weather q0_rule q0_acts q0_real q0_trial q0_round q0_nights q0_before q0_history q0_kept q0_keptHouses q0_shortest q0_tracks q0_tally q0_told o1.1 o1.2 p2 o3 hg4) [0, 1] rfl rfl rfl (ci := 11) rfl rfl (q0 := 0) rfl hP hD hS hA hl.1 (Nat.le_of_ble_eq_true rfl) rfl dX11_tell__7 (ws2 := (WX11_tell_ E q0 q0_text q0_town q0_weather q0_rule q0_acts q0_real q0_trial q0_round q0_nights q0_before q0_history q0_kept q0_keptHouses q0_shortest q0_tracks q0_tally q0_told o3.1 o3.2)) 2 [] rfl rfl rfl rfl (by decide +kernel) (fun H locs hP hD hS => ?_)
  have hj0 := Option.some.inj hf
  subst hj0
  exact hret _ _ _ _ dX11_tell__10 hP hD hS
theorem K_RX11_194 : KV RX11 194 yX11_tell_ cX11_tell_ 3 none 2 := ⟨Tg_mem 740 (by decide +kernel) (by decide +kernel), Tg_mem 90 (by decide +kernel) (by decide +kernel), Tg_mem 737 (by decide +kernel) (by decide +kernel), Tg_mem 739 (by decide +kernel) (by decide +kernel), Tg_mem 9 (by decide +kernel) (by decide +kernel), by decide +kernel⟩
theorem dX11_above_0 : decode cX11_above 0 = .ok (.aload_n 0, 1) := by decide +kernel
theorem dX11_above_1 : decode cX11_above 1 = .ok (.getfield 19, 3) := by decide +kernel
theorem dX11_above_4 : decode cX11_above 4 = .ok (.iload_n 1, 1) := by decide +kernel
theorem dX11_above_5 : decode cX11_above 5 = .ok (.invokevirtual 139, 3) := by decide +kernel
theorem dX11_above_8 : decode cX11_above 8 = .ok (.ifCond .ne 5, 3) := by decide +kernel
theorem dX11_above_11 : decode cX11_above 11 = .ok (.iconst (-1), 1) := by decide +kernel
theorem dX11_above_12 : decode cX11_above 12 = .ok (.ireturn, 1) := by decide +kernel
theorem dX11_above_13 : decode cX11_above 13 = .ok (.iconst 0, 1) := by decide +kernel
theorem dX11_above_14 : decode cX11_above 14 = .ok (.istore_n 2, 1) := by decide +kernel
theorem dX11_above_15 : decode cX11_above 15 = .ok (.iconst 0, 1) := by decide +kernel
theorem dX11_above_16 : decode cX11_above 16 = .ok (.istore_n 3, 1) := by decide +kernel
theorem dX11_above_17 : decode cX11_above 17 = .ok (.iconst (-1), 1) := by decide +kernel
theorem dX11_above_18 : decode cX11_above 18 = .ok (.istore 4, 2) := by decide +kernel
theorem dX11_above_20 : decode cX11_above 20 = .ok (.iconst 0, 1) := by decide +kernel
theorem dX11_above_21 : decode cX11_above 21 = .ok (.istore 5, 2) := by decide +kernel
theorem dX11_above_23 : decode cX11_above 23 = .ok (.iconst 0, 1) := by decide +kernel
theorem dX11_above_24 : decode cX11_above 24 = .ok (.istore 6, 2) := by decide +kernel
theorem dX11_above_26 : decode cX11_above 26 = .ok (.iload 6, 2) := by decide +kernel
theorem dX11_above_28 : decode cX11_above 28 = .ok (.iconst 2, 1) := by decide +kernel
theorem dX11_above_29 : decode cX11_above 29 = .ok (.aload_n 0, 1) := by decide +kernel
theorem dX11_above_30 : decode cX11_above 30 = .ok (.getfield 19, 3) := by decide +kernel
theorem dX11_above_33 : decode cX11_above 33 = .ok (.getfield 179, 3) := by decide +kernel
theorem dX11_above_36 : decode cX11_above 36 = .ok (.imul, 1) := by decide +kernel
theorem dX11_above_37 : decode cX11_above 37 = .ok (.if_icmp .ge 73, 3) := by decide +kernel
theorem dX11_above_40 : decode cX11_above 40 = .ok (.aload_n 0, 1) := by decide +kernel
theorem dX11_above_41 : decode cX11_above 41 = .ok (.getfield 19, 3) := by decide +kernel
theorem dX11_above_44 : decode cX11_above 44 = .ok (.getfield 157, 3) := by decide +kernel
theorem dX11_above_47 : decode cX11_above 47 = .ok (.iload 6, 2) := by decide +kernel
theorem dX11_above_49 : decode cX11_above 49 = .ok (.iaload, 1) := by decide +kernel
theorem dX11_above_50 : decode cX11_above 50 = .ok (.iload_n 1, 1) := by decide +kernel
theorem dX11_above_51 : decode cX11_above 51 = .ok (.if_icmp .ne 53, 3) := by decide +kernel
theorem dX11_above_54 : decode cX11_above 54 = .ok (.iload 6, 2) := by decide +kernel
theorem dX11_above_56 : decode cX11_above 56 = .ok (.iconst 2, 1) := by decide +kernel
theorem dX11_above_57 : decode cX11_above 57 = .ok (.idiv, 1) := by decide +kernel
theorem dX11_above_58 : decode cX11_above 58 = .ok (.iload_n 1, 1) := by decide +kernel
theorem dX11_above_59 : decode cX11_above 59 = .ok (.if_icmp .eq 45, 3) := by decide +kernel
theorem dX11_above_62 : decode cX11_above 62 = .ok (.aload_n 0, 1) := by decide +kernel
theorem dX11_above_63 : decode cX11_above 63 = .ok (.getfield 49, 3) := by decide +kernel
theorem dX11_above_66 : decode cX11_above 66 = .ok (.getfield 148, 3) := by decide +kernel
theorem dX11_above_69 : decode cX11_above 69 = .ok (.getfield 151, 3) := by decide +kernel
theorem dX11_above_72 : decode cX11_above 72 = .ok (.iload 6, 2) := by decide +kernel
theorem dX11_above_74 : decode cX11_above 74 = .ok (.iaload, 1) := by decide +kernel
theorem dX11_above_75 : decode cX11_above 75 = .ok (.istore 7, 2) := by decide +kernel
theorem dX11_above_77 : decode cX11_above 77 = .ok (.iload_n 2, 1) := by decide +kernel
theorem dX11_above_78 : decode cX11_above 78 = .ok (.iconst 1, 1) := by decide +kernel
theorem dX11_above_79 : decode cX11_above 79 = .ok (.iload 6, 2) := by decide +kernel
theorem dX11_above_81 : decode cX11_above 81 = .ok (.ishl, 1) := by decide +kernel
theorem dX11_above_82 : decode cX11_above 82 = .ok (.ior, 1) := by decide +kernel
theorem dX11_above_83 : decode cX11_above 83 = .ok (.istore_n 2, 1) := by decide +kernel
theorem dX11_above_84 : decode cX11_above 84 = .ok (.iload_n 3, 1) := by decide +kernel
theorem dX11_above_85 : decode cX11_above 85 = .ok (.iload 7, 2) := by decide +kernel
theorem dX11_above_87 : decode cX11_above 87 = .ok (.iadd, 1) := by decide +kernel
theorem dX11_above_88 : decode cX11_above 88 = .ok (.istore_n 3, 1) := by decide +kernel
theorem dX11_above_89 : decode cX11_above 89 = .ok (.iload 7, 2) := by decide +kernel
theorem dX11_above_91 : decode cX11_above 91 = .ok (.iload 5, 2) := by decide +kernel
theorem dX11_above_93 : decode cX11_above 93 = .ok (.if_icmp .le 11, 3) := by decide +kernel
theorem dX11_above_96 : decode cX11_above 96 = .ok (.iload 7, 2) := by decide +kernel
theorem dX11_above_98 : decode cX11_above 98 = .ok (.istore 5, 2) := by decide +kernel
theorem dX11_above_100 : decode cX11_above 100 = .ok (.iload 6, 2) := by decide +kernel
theorem dX11_above_102 : decode cX11_above 102 = .ok (.istore 4, 2) := by decide +kernel
theorem dX11_above_104 : decode cX11_above 104 = .ok (.iinc 6 1, 3) := by decide +kernel
theorem dX11_above_107 : decode cX11_above 107 = .ok (.goto (-81), 3) := by decide +kernel
theorem dX11_above_110 : decode cX11_above 110 = .ok (.aload_n 0, 1) := by decide +kernel
theorem dX11_above_111 : decode cX11_above 111 = .ok (.iload_n 3, 1) := by decide +kernel
theorem dX11_above_112 : decode cX11_above 112 = .ok (.iload 4, 2) := by decide +kernel
theorem dX11_above_114 : decode cX11_above 114 = .ok (.invokevirtual 194, 3) := by decide +kernel
theorem dX11_above_117 : decode cX11_above 117 = .ok (.iload_n 2, 1) := by decide +kernel
theorem dX11_above_118 : decode cX11_above 118 = .ok (.ireturn, 1) := by decide +kernel
def WX11_above (E : ENV) (q0 : Nat) (q0_text : Nat) (q0_town : Nat) (q0_weather : Nat) (q0_rule : Nat) (q0_acts : Nat) (q0_real : Nat) (q0_trial : Nat) (q0_round : Nat) (q0_nights : Nat) (q0_before : Nat) (q0_history : Nat) (q0_kept : Nat) (q0_keptHouses : Nat) (q0_shortest : Nat) (q0_tracks : Nat) (q0_tally : Nat) (q0_told : Nat) (q0_town_hold : Nat) (q0_town_below : Nat) (q0_town_hay : Nat) (q0_real_state : Nat) (q0_real_owedBy : Nat) (q0_real_state_snow : Nat) (q0_real_state_path : Nat) (q0_real_state_debt : Nat) (i_toldCount : Int32) (i_town_houses : Int32) (a_town_below : Nat → Int32) (i_real_owed : Int32) (i_real_slides : Int32) (i_real_struck : Int32) (i_real_slid : Int32) (i_real_state_now : Int32) (a_real_state_snow : Nat → Int32) (a_told : Nat → Int32) : va_W := [(q0, .inr (11, [.ref q0_text, .ref q0_town, .ref q0_weather, .ref q0_rule, .ref q0_acts, .ref q0_real, .ref q0_trial, .ref q0_round, .ref q0_nights, .ref q0_before, .ref q0_history, .ref q0_kept, .ref q0_keptHouses, .ref q0_shortest, .ref q0_tracks, .ref q0_tally, .ref q0_told, .int i_toldCount])), (q0_town, .inr (7, [.ref q0_town_hold, .ref q0_town_below, .ref q0_town_hay, .int i_town_houses])), (q0_town_below, .inl (E.2.1, 14, .inl a_town_below)), (q0_real, .inr (9, [.ref q0_town, .ref q0_weather, .ref q0_rule, .ref q0_real_state, .ref q0_real_owedBy, .int i_real_owed, .int i_real_slides, .int i_real_struck, .int i_real_slid])), (q0_real_state, .inr (5, [.ref q0_real_state_snow, .ref q0_real_state_path, .ref q0_real_state_debt, .int i_real_state_now])), (q0_real_state_snow, .inl (E.2.1, 14, .inl a_real_state_snow)), (q0_told, .inl (E.2.1, 8, .inl a_told))]
set_option maxHeartbeats 4000000 in
set_option maxRecDepth 20000 in
theorem kX11_above (l : Launch) (E : ENV) (q0 : Nat) (q0_text : Nat) (q0_town : Nat) (q0_weather : Nat) (q0_rule : Nat) (q0_acts : Nat) (q0_real : Nat) (q0_trial : Nat) (q0_round : Nat) (q0_nights : Nat) (q0_before : Nat) (q0_history : Nat) (q0_kept : Nat) (q0_keptHouses : Nat) (q0_shortest : Nat) (q0_tracks : Nat) (q0_tally : Nat) (q0_told : Nat) (q0_town_hold : Nat) (q0_town_below : Nat) (q0_town_hay : Nat) (q0_real_state : Nat) (q0_real_owedBy : Nat) (q0_real_state_snow : Nat) (q0_real_state_path : Nat) (q0_real_state_debt : Nat) (i_toldCount : Int32) (i_town_houses : Int32) (a_town_below : Nat → Int32) (i_real_owed : Int32) (i_real_slides : Int32) (i_real_struck : Int32) (i_real_slid : Int32) (i_real_state_now : Int32) (a_real_state_snow : Nat → Int32) (a_told : Nat → Int32) (p1 : Int32) (o9 : Int32 × Int32 × (Nat → Int32)) (hf : fX11_above i_toldCount i_town_houses a_town_below a_real_state_snow a_told p1 = some o9) : CI l E yX11_above cX11_above 8 (some .int) 3 [.ref q0, .int p1] (WX11_above E q0 q0_text q0_town q0_weather q0_rule q0_acts q0_real q0_trial q0_round q0_nights q0_before q0_history q0_kept q0_keptHouses q0_shortest q0_tracks q0_tally q0_told q0_town_hold q0_town_below q0_town_hay q0_real_state q0_real_owedBy q0_real_state_snow q0_real_state_path q0_real_state_debt i_toldCount i_town_houses a_town_below i_real_owed i_real_slides i_real_struck i_real_slid i_real_state_now a_real_state_snow a_told) (WX11_above E q0 q0_text q0_town q0_weather q0_rule q0_acts q0_real q0_trial q0_round q0_nights q0_before q0_history q0_kept q0_keptHouses q0_shortest q0_tracks q0_tally q0_told q0_town_hold q0_town_below q0_town_hay q0_real_state q0_real_owedBy q0_real_state_snow q0_real_state_path q0_real_state_debt o9.2.1 i_town_houses a_town_below i_real_owed i_real_slides i_real_struck i_real_slid i_real_state_now a_real_state_snow o9.2.2) o9.1 := by
  refine begI (by decide +kernel) (Nat.le_of_ble_eq_true rfl) ?_
  intro p e s m args below meth c A Q C hA hret
  have hx := C.1
  have hb := C.2.1
  have L26 : ∀ (i_toldCount : Int32) (a_told : Nat → Int32), ∀ (n : Nat) (v2 : Int32) (v3 : Int32) (v4 : Int32) (v5 : Int32) (v6 : Int32) (o : Int32 × Int32 × Int32), fX11_above_L26 i_town_houses a_town_below a_real_state_snow p1 n v2 v3 v4 v5 v6 = some o → (GO p l e 3 s m args below meth c Q E A 8 110 [] [(0, .ref q0), (2, .int o.1), (3, .int o.2.1), (4, .int o.2.2)] (WX11_above E q0 q0_text q0_town q0_weather q0_rule q0_acts q0_real q0_trial q0_round q0_nights q0_before q0_history q0_kept q0_keptHouses q0_shortest q0_tracks q0_tally q0_told q0_town_hold q0_town_below q0_town_hay q0_real_state q0_real_owedBy q0_real_state_snow q0_real_state_path q0_real_state_debt i_toldCount i_town_houses a_town_below i_real_owed i_real_slides i_real_struck i_real_slid i_real_state_now a_real_state_snow a_told)) → GO p l e 3 s m args below meth c Q E A 8 26 [] [(0, .ref q0), (1, .int p1), (2, .int v2), (3, .int v3), (4, .int v4), (5, .int v5), (6, .int v6)] (WX11_above E q0 q0_text q0_town q0_weather q0_rule q0_acts q0_real q0_trial q0_round q0_nights q0_before q0_history q0_kept q0_keptHouses q0_shortest q0_tracks q0_tally q0_told q0_town_hold q0_town_below q0_town_hay q0_real_state q0_real_owedBy q0_real_state_snow q0_real_state_path q0_real_state_debt i_toldCount i_town_houses a_town_below i_real_owed i_real_slides i_real_struck i_real_slid i_real_state_now a_real_state_snow a_told) := by
    intro i_toldCount a_told
    intro n
    induction n with
    | zero =>
      intro v2 v3 v4 v5 v6 o hf
      have hf : none = some o := hf
      cases hf
    | succ n ih =>
      intro v2 v3 v4 v5 v6 o hf hE
      intro H locs ls hl hP hD hS
      rw [fX11_above_L26] at hf
      refine lv_iload hx hb dX11_above_26 (lv_at hl 6 rfl) ?_
      refine lv_iconst (v := 2) hx hb dX11_above_28 (by decide) ?_
      refine lv_aload_n hx hb dX11_above_29 rfl (lv_at hl 0 rfl) ?_
      refine gf_RX11_19 C hP 0 rfl rfl dX11_above_30 ?_
      refine gf_RX11_179 C hP 1 rfl rfl dX11_above_33 ?_
      refine lv_imul hx hb dX11_above_36 ?_
      refine lv_icmp_ge (tgt := 110) hx hb dX11_above_37 (by decide) (fun c4 => ?_) (fun c4 => ?_)
      · rw [if_pos c4] at hf
        have hf := Option.some.inj hf
        subst hf
        exact hE _ _ _ (lv_sub hl [0, 2, 3, 4] rfl) hP hD hS
      · rw [if_neg c4] at hf
        refine lv_aload_n hx hb dX11_above_40 rfl (lv_at hl 0 rfl) ?_
        refine gf_RX11_19 C hP 0 rfl rfl dX11_above_41 ?_
        refine gf_RX11_157 C hP 1 rfl rfl dX11_above_44 ?_
        refine lv_iload hx hb dX11_above_47 (lv_at hl 6 rfl) ?_
        obtain ⟨g5, hf⟩ := gd_some hf
        refine va_iald hx hb C.2.2.2.2.2.1 hP 2 0 rfl rfl (vin_in g5) dX11_above_49 ?_
        refine lv_iload_n hx hb dX11_above_50 rfl (lv_at hl 1 rfl) ?_
        refine lv_icmp_ne (tgt := 104) hx hb dX11_above_51 (by decide) (fun c6 => ?_) (fun c6 => ?_)
        · rw [if_neg c6] at hf
          refine lv_iinc (v := (v6 + 1)) (lv' := [(6, .int ((v6 + 1))), (0, .ref q0), (1, .int p1), (2, .int v2), (3, .int v3), (4, .int v4), (5, .int v5)]) hx hb dX11_above_104 hl (k := 6) rfl rfl (by decide) rfl (fun ls hl => ?_)
          refine lv_goto (tgt := 26) hx hb dX11_above_107 (by decide) ?_
          exact ih v2 v3 v4 v5 ((v6 + 1)) _ hf hE _ _ _ (lv_sub hl [1, 2, 3, 4, 5, 6, 0] rfl) hP hD hS
        · rw [if_pos c6] at hf
          refine lv_iload hx hb dX11_above_54 (lv_at hl 6 rfl) ?_
          refine lv_iconst (v := 2) hx hb dX11_above_56 (by decide) ?_
          refine lv_idiv hx hb dX11_above_57 (by decide) ?_
          refine lv_iload_n hx hb dX11_above_58 rfl (lv_at hl 1 rfl) ?_
          refine lv_icmp_eq (tgt := 104) hx hb dX11_above_59 (by decide) (fun c7 => ?_) (fun c7 => ?_)
          · rw [if_pos c7] at hf
            refine lv_iinc (v := (v6 + 1)) (lv' := [(6, .int ((v6 + 1))), (0, .ref q0), (1, .int p1), (2, .int v2), (3, .int v3), (4, .int v4), (5, .int v5)]) hx hb dX11_above_104 hl (k := 6) rfl rfl (by decide) rfl (fun ls hl => ?_)
            refine lv_goto (tgt := 26) hx hb dX11_above_107 (by decide) ?_
            exact ih v2 v3 v4 v5 ((v6 + 1)) _ hf hE _ _ _ (lv_sub hl [1, 2, 3, 4, 5, 6, 0] rfl) hP hD hS
          · rw [if_neg c7] at hf
            refine lv_aload_n hx hb dX11_above_62 rfl (lv_at hl 0 rfl) ?_
            refine gf_RX11_49 C hP 0 rfl rfl dX11_above_63 ?_
            refine gf_RX11_148 C hP 3 rfl rfl dX11_above_66 ?_
            refine gf_RX11_151 C hP 4 rfl rfl dX11_above_69 ?_
            refine lv_iload hx hb dX11_above_72 (lv_at hl 6 rfl) ?_
            obtain ⟨g8, hf⟩ := gd_some hf
            refine va_iald hx hb C.2.2.2.2.2.1 hP 5 0 rfl rfl (vin_in g8) dX11_above_74 ?_
            refine lv_istore (lv' := [(7, .int ((a_real_state_snow (v6 : Int32).toNatClampNeg))), (0, .ref q0), (1, .int p1), (2, .int v2), (3, .int v3), (4, .int v4), (5, .int v5), (6, .int v6)]) hx hb dX11_above_75 hl (by decide) rfl (fun ls hl => ?_)
            refine lv_iload_n hx hb dX11_above_77 rfl (lv_at hl 3 rfl) ?_
            refine lv_iconst (v := 1) hx hb dX11_above_78 (by decide) ?_
            refine lv_iload hx hb dX11_above_79 (lv_at hl 7 rfl) ?_
            refine lv_ishl hx hb dX11_above_81 ?_
            refine lv_ior hx hb dX11_above_82 ?_
            refine lv_istore_n (lv' := [(2, .int ((v2 ||| ((1 <<< (v6 &&& 31)))))), (7, .int ((a_real_state_snow (v6 : Int32).toNatClampNeg))), (0, .ref q0), (1, .int p1), (3, .int v3), (4, .int v4), (5, .int v5), (6, .int v6)]) hx hb dX11_above_83 rfl hl (by decide) rfl (fun ls hl => ?_)
            refine lv_iload_n hx hb dX11_above_84 rfl (lv_at hl 4 rfl) ?_
            refine lv_iload hx hb dX11_above_85 (lv_at hl 1 rfl) ?_
            refine lv_iadd hx hb dX11_above_87 ?_
            refine lv_istore_n (lv' := [(3, .int ((v3 + ((a_real_state_snow (v6 : Int32).toNatClampNeg))))), (2, .int ((v2 ||| ((1 <<< (v6 &&& 31)))))), (7, .int ((a_real_state_snow (v6 : Int32).toNatClampNeg))), (0, .ref q0), (1, .int p1), (4, .int v4), (5, .int v5), (6, .int v6)]) hx hb dX11_above_88 rfl hl (by decide) rfl (fun ls hl => ?_)
            refine lv_iload hx hb dX11_above_89 (lv_at hl 2 rfl) ?_
            refine lv_iload hx hb dX11_above_91 (lv_at hl 6 rfl) ?_
            refine lv_icmp_le (tgt := 104) hx hb dX11_above_93 (by decide) (fun c9 => ?_) (fun c9 => ?_)
            · rw [if_pos c9] at hf
              refine lv_iinc (v := (v6 + 1)) (lv' := [(6, .int ((v6 + 1))), (3, .int ((v3 + ((a_real_state_snow (v6 : Int32).toNatClampNeg))))), (2, .int ((v2 ||| ((1 <<< (v6 &&& 31)))))), (7, .int ((a_real_state_snow (v6 : Int32).toNatClampNeg))), (0, .ref q0), (1, .int p1), (4, .int v4), (5, .int v5)]) hx hb dX11_above_104 hl (k := 7) rfl rfl (by decide) rfl (fun ls hl => ?_)
              refine lv_goto (tgt := 26) hx hb dX11_above_107 (by decide) ?_
              exact ih ((v2 ||| ((1 <<< (v6 &&& 31))))) ((v3 + ((a_real_state_snow (v6 : Int32).toNatClampNeg)))) v4 v5 ((v6 + 1)) _ hf hE _ _ _ (lv_sub hl [4, 5, 2, 1, 6, 7, 0] rfl) hP hD hS
            · rw [if_neg c9] at hf
              refine lv_iload hx hb dX11_above_96 (lv_at hl 2 rfl) ?_
              refine lv_istore (lv' := [(5, .int ((a_real_state_snow (v6 : Int32).toNatClampNeg))), (3, .int ((v3 + ((a_real_state_snow (v6 : Int32).toNatClampNeg))))), (2, .int ((v2 ||| ((1 <<< (v6 &&& 31)))))), (7, .int ((a_real_state_snow (v6 : Int32).toNatClampNeg))), (0, .ref q0), (1, .int p1), (4, .int v4), (6, .int v6)]) hx hb dX11_above_98 hl (by decide) rfl (fun ls hl => ?_)
              refine lv_iload hx hb dX11_above_100 (lv_at hl 7 rfl) ?_
              refine lv_istore (lv' := [(4, .int v6), (5, .int ((a_real_state_snow (v6 : Int32).toNatClampNeg))), (3, .int ((v3 + ((a_real_state_snow (v6 : Int32).toNatClampNeg))))), (2, .int ((v2 ||| ((1 <<< (v6 &&& 31)))))), (7, .int ((a_real_state_snow (v6 : Int32).toNatClampNeg))), (0, .ref q0), (1, .int p1), (6, .int v6)]) hx hb dX11_above_102 hl (by decide) rfl (fun ls hl => ?_)
              refine lv_iinc (v := (v6 + 1)) (lv' := [(6, .int ((v6 + 1))), (4, .int v6), (5, .int ((a_real_state_snow (v6 : Int32).toNatClampNeg))), (3, .int ((v3 + ((a_real_state_snow (v6 : Int32).toNatClampNeg))))), (2, .int ((v2 ||| ((1 <<< (v6 &&& 31)))))), (7, .int ((a_real_state_snow (v6 : Int32).toNatClampNeg))), (0, .ref q0), (1, .int p1)]) hx hb dX11_above_104 hl (k := 7) rfl rfl (by decide) rfl (fun ls hl => ?_)
              refine lv_goto (tgt := 26) hx hb dX11_above_107 (by decide) ?_
              exact ih ((v2 ||| ((1 <<< (v6 &&& 31))))) ((v3 + ((a_real_state_snow (v6 : Int32).toNatClampNeg)))) v6 ((a_real_state_snow (v6 : Int32).toNatClampNeg)) ((v6 + 1)) _ hf hE _ _ _ (lv_sub hl [6, 7, 4, 3, 1, 2, 0] rfl) hP hD hS
  intro H locs ls hl hP hD hS
  have hl : lv_has ls 8 [(0, .ref q0), (1, .int p1)] := hl
  unfold fX11_above at hf
  refine lv_aload_n hx hb dX11_above_0 rfl (lv_at hl 0 rfl) ?_
  refine gf_RX11_19 C hP 0 rfl rfl dX11_above_1 ?_
  refine lv_iload_n hx hb dX11_above_4 rfl (lv_at hl 1 rfl) ?_
  obtain ⟨o1, hg2, hf⟩ := bd_some hf
  refine k_VI2 (As := [.int p1]) C K_RX11_139 (Nat.le_of_ble_eq_true rfl) (Nat.le_of_ble_eq_true rfl) (kX7_has l E q0_town q0_town_hold q0_town_below q0_town_hay i_town_houses p1 o1 hg2) [1] rfl rfl rfl (ci := 7) rfl rfl (q0 := 0) rfl hP hD hS hA hl.1 (Nat.le_of_ble_eq_true rfl) rfl dX11_above_5 (ws2 := (WX11_above E q0 q0_text q0_town q0_weather q0_rule q0_acts q0_real q0_trial q0_round q0_nights q0_before q0_history q0_kept q0_keptHouses q0_shortest q0_tracks q0_tally q0_told q0_town_hold q0_town_below q0_town_hay q0_real_state q0_real_owedBy q0_real_state_snow q0_real_state_path q0_real_state_debt i_toldCount i_town_houses a_town_below i_real_owed i_real_slides i_real_struck i_real_slid i_real_state_now a_real_state_snow a_told)) 7 [0, 2, 3, 4, 5, 6] rfl rfl rfl rfl (by decide +kernel) (fun H locs hP hD hS => ?_)
  refine lv_if_ne (tgt := 13) hx hb dX11_above_8 (by decide) (fun c3 => ?_) (fun c3 => ?_)
  · rw [if_neg c3] at hf
    refine lv_iconst (v := 0) hx hb dX11_above_13 (by decide) ?_
    refine lv_istore_n (lv' := [(2, .int 0), (0, .ref q0), (1, .int p1)]) hx hb dX11_above_14 rfl hl (by decide) rfl (fun ls hl => ?_)
    refine lv_iconst (v := 0) hx hb dX11_above_15 (by decide) ?_
    refine lv_istore_n (lv' := [(3, .int 0), (2, .int 0), (0, .ref q0), (1, .int p1)]) hx hb dX11_above_16 rfl hl (by decide) rfl (fun ls hl => ?_)
    refine lv_iconst (v := (-1)) hx hb dX11_above_17 (by decide) ?_
    refine lv_istore (lv' := [(4, .int ((-1))), (3, .int 0), (2, .int 0), (0, .ref q0), (1, .int p1)]) hx hb dX11_above_18 hl (by decide) rfl (fun ls hl => ?_)
    refine lv_iconst (v := 0) hx hb dX11_above_20 (by decide) ?_
    refine lv_istore (lv' := [(5, .int 0), (4, .int ((-1))), (3, .int 0), (2, .int 0), (0, .ref q0), (1, .int p1)]) hx hb dX11_above_21 hl (by decide) rfl (fun ls hl => ?_)
    refine lv_iconst (v := 0) hx hb dX11_above_23 (by decide) ?_
    refine lv_istore (lv' := [(6, .int 0), (5, .int 0), (4, .int ((-1))), (3, .int 0), (2, .int 0), (0, .ref q0), (1, .int p1)]) hx hb dX11_above_24 hl (by decide) rfl (fun ls hl => ?_)
    obtain ⟨o10, hg11, hf⟩ := bd_some hf
    refine L26 i_toldCount a_told FU 0 0 ((-1)) 0 0 o10 hg11 ?_ _ _ _ (lv_sub hl [5, 6, 4, 3, 2, 1, 0] rfl) hP hD hS
    intro H locs ls hl hP hD hS
    refine lv_aload_n hx hb dX11_above_110 rfl (lv_at hl 0 rfl) ?_
    refine lv_iload_n hx hb dX11_above_111 rfl (lv_at hl 2 rfl) ?_
    refine lv_iload hx hb dX11_above_112 (lv_at hl 3 rfl) ?_
    obtain ⟨o12, hg13, hf⟩ := bd_some hf
    refine k_VV2 (As := [.int o10.2.1, .int o10.2.2]) C K_RX11_194 (Nat.le_of_ble_eq_true rfl) (Nat.le_of_ble_eq_true rfl) (kX11_tell_ l E q0 q0_text q0_town q0_weather q0_rule q0_acts q0_real q0_trial q0_round q0_nights q0_before q0_history q0_kept q0_keptHouses q0_shortest q0_tracks q0_tally q0_told i_toldCount a_told o10.2.1 o10.2.2 o12 hg13) [0, 6] rfl rfl rfl (ci := 11) rfl rfl (q0 := 0) rfl hP hD hS hA hl.1 (Nat.le_of_ble_eq_true rfl) rfl dX11_above_114 (ws2 := (WX11_above E q0 q0_text q0_town q0_weather q0_rule q0_acts q0_real q0_trial q0_round q0_nights q0_before q0_history q0_kept q0_keptHouses q0_shortest q0_tracks q0_tally q0_told q0_town_hold q0_town_below q0_town_hay q0_real_state q0_real_owedBy q0_real_state_snow q0_real_state_path q0_real_state_debt o12.1 i_town_houses a_town_below i_real_owed i_real_slides i_real_struck i_real_slid i_real_state_now a_real_state_snow o12.2)) 7 [1, 2, 3, 4, 5] rfl rfl rfl rfl (by decide +kernel) (fun H locs hP hD hS => ?_)
    refine lv_iload_n hx hb dX11_above_117 rfl (lv_at hl 1 rfl) ?_
    have hj0 := Option.some.inj hf
    subst hj0
    exact hret _ _ _ _ dX11_above_118 rfl hP hD hS
  · rw [if_pos c3] at hf
    refine lv_iconst (v := (-1)) hx hb dX11_above_11 (by decide) ?_
    have hj0 := Option.some.inj hf
    subst hj0
    exact hret _ _ _ _ dX11_above_12 rfl hP hD hS
theorem K_RX11_198 : KV RX11 198 yX7_hasTwo cX7_hasTwo 3 (some .boolean) 2 := ⟨Tg_mem 756 (by decide +kernel) (by decide +kernel), Tg_mem 92 (by decide +kernel) (by decide +kernel), Tg_mem 753 (by decide +kernel) (by decide +kernel), Tg_mem 754 (by decide +kernel) (by decide +kernel), Tg_mem 755 (by decide +kernel) (by decide +kernel), by decide +kernel⟩
theorem q258 : Cond.fieldLinkNest RX11 202 "SnowForSummer$State" "debt" "[I" "SnowForSummer" ∈ NL := NL_mem 258 (by decide +kernel) (by decide +kernel)
theorem gf_RX11_202 {p : Program} {l : Launch} {e : Env} {R : Room} {s : State} {m : MethodId} {args : Array Value} {below : List Frame} {meth : Method} {c : Code} {H : Heap} {locs : List Loc} {cells slots : Nat} {Q : State → Prop} {E : ENV} {cc : ByteArray} {n : Nat} {r : Option FieldType} {pc : Nat} {ls : Array Slot} {rest : List Value} {a : Nat} {ws : va_W} {nm ds : String} {fs : List Value} {A : Nat → Prop} {v : Value} (C : Cx E A ⟨RX11, nm, ds⟩ cc n r p s m args meth c) (hP : va_P E.1 classes ws H) (q0 : Nat) (he : ws[q0]? = some (a, .inr (5, fs))) (hv : fs[2]? = some v) (hdg : decode cc pc = .ok (.getfield 202, 3))
    (kk : W p l e R s m args below meth c H locs cells slots Q (F0 m (pc + 3) ls (v :: rest))) : W p l e R s m args below meth c H locs cells slots Q (F0 m pc ls (.ref a :: rest)) :=
  va_getN (C := RX5) (T := TX5) (N := 4) (Ts := wl ⟨RX11, nm, ds⟩ cc n r) C.1 C.2.1 C.2.2.2.2.1 (fun w h => List.mem_cons_of_mem _ (inT5 w h)) C.2.2.2.1 C.2.2.2.2.2.1 hP q0 he rfl 2 (by decide) (va_Nw.use rfl (C.2.2.2.2.2.2.2.2.1 _ q258)) (fun _ h9 => h9) hv hdg kk
theorem dX11_debt_0 : decode cX11_debt 0 = .ok (.aload_n 0, 1) := by decide +kernel
theorem dX11_debt_1 : decode cX11_debt 1 = .ok (.getfield 19, 3) := by decide +kernel
theorem dX11_debt_4 : decode cX11_debt 4 = .ok (.iload_n 1, 1) := by decide +kernel
theorem dX11_debt_5 : decode cX11_debt 5 = .ok (.iload_n 2, 1) := by decide +kernel
theorem dX11_debt_6 : decode cX11_debt 6 = .ok (.invokevirtual 198, 3) := by decide +kernel
theorem dX11_debt_9 : decode cX11_debt 9 = .ok (.ifCond .eq 23, 3) := by decide +kernel
theorem dX11_debt_12 : decode cX11_debt 12 = .ok (.aload_n 0, 1) := by decide +kernel
theorem dX11_debt_13 : decode cX11_debt 13 = .ok (.getfield 49, 3) := by decide +kernel
theorem dX11_debt_16 : decode cX11_debt 16 = .ok (.getfield 148, 3) := by decide +kernel
theorem dX11_debt_19 : decode cX11_debt 19 = .ok (.getfield 202, 3) := by decide +kernel
theorem dX11_debt_22 : decode cX11_debt 22 = .ok (.iload_n 1, 1) := by decide +kernel
theorem dX11_debt_23 : decode cX11_debt 23 = .ok (.bipush 7, 2) := by decide +kernel
theorem dX11_debt_25 : decode cX11_debt 25 = .ok (.imul, 1) := by decide +kernel
theorem dX11_debt_26 : decode cX11_debt 26 = .ok (.iload_n 2, 1) := by decide +kernel
theorem dX11_debt_27 : decode cX11_debt 27 = .ok (.iadd, 1) := by decide +kernel
theorem dX11_debt_28 : decode cX11_debt 28 = .ok (.iaload, 1) := by decide +kernel
theorem dX11_debt_29 : decode cX11_debt 29 = .ok (.goto 4, 3) := by decide +kernel
theorem dX11_debt_32 : decode cX11_debt 32 = .ok (.iconst (-1), 1) := by decide +kernel
theorem dX11_debt_33 : decode cX11_debt 33 = .ok (.ireturn, 1) := by decide +kernel
def WX11_debt (E : ENV) (q0 : Nat) (q0_text : Nat) (q0_town : Nat) (q0_weather : Nat) (q0_rule : Nat) (q0_acts : Nat) (q0_real : Nat) (q0_trial : Nat) (q0_round : Nat) (q0_nights : Nat) (q0_before : Nat) (q0_history : Nat) (q0_kept : Nat) (q0_keptHouses : Nat) (q0_shortest : Nat) (q0_tracks : Nat) (q0_tally : Nat) (q0_told : Nat) (q0_town_hold : Nat) (q0_town_below : Nat) (q0_town_hay : Nat) (q0_real_state : Nat) (q0_real_owedBy : Nat) (q0_real_state_snow : Nat) (q0_real_state_path : Nat) (q0_real_state_debt : Nat) (i_toldCount : Int32) (i_town_houses : Int32) (i_real_owed : Int32) (i_real_slides : Int32) (i_real_struck : Int32) (i_real_slid : Int32) (i_real_state_now : Int32) (a_real_state_debt : Nat → Int32) : va_W := [(q0, .inr (11, [.ref q0_text, .ref q0_town, .ref q0_weather, .ref q0_rule, .ref q0_acts, .ref q0_real, .ref q0_trial, .ref q0_round, .ref q0_nights, .ref q0_before, .ref q0_history, .ref q0_kept, .ref q0_keptHouses, .ref q0_shortest, .ref q0_tracks, .ref q0_tally, .ref q0_told, .int i_toldCount])), (q0_town, .inr (7, [.ref q0_town_hold, .ref q0_town_below, .ref q0_town_hay, .int i_town_houses])), (q0_real, .inr (9, [.ref q0_town, .ref q0_weather, .ref q0_rule, .ref q0_real_state, .ref q0_real_owedBy, .int i_real_owed, .int i_real_slides, .int i_real_struck, .int i_real_slid])), (q0_real_state, .inr (5, [.ref q0_real_state_snow, .ref q0_real_state_path, .ref q0_real_state_debt, .int i_real_state_now])), (q0_real_state_debt, .inl (E.2.1, 49, .inl a_real_state_debt))]
set_option maxHeartbeats 4000000 in
set_option maxRecDepth 20000 in
theorem kX11_debt (l : Launch) (E : ENV) (q0 : Nat) (q0_text : Nat) (q0_town : Nat) (q0_weather : Nat) (q0_rule : Nat) (q0_acts : Nat) (q0_real : Nat) (q0_trial : Nat) (q0_round : Nat) (q0_nights : Nat) (q0_before : Nat) (q0_history : Nat) (q0_kept : Nat) (q0_keptHouses : Nat) (q0_shortest : Nat) (q0_tracks : Nat) (q0_tally : Nat) (q0_told : Nat) (q0_town_hold : Nat) (q0_town_below : Nat) (q0_town_hay : Nat) (q0_real_state : Nat) (q0_real_owedBy : Nat) (q0_real_state_snow : Nat) (q0_real_state_path : Nat) (q0_real_state_debt : Nat) (i_toldCount : Int32) (i_town_houses : Int32) (i_real_owed : Int32) (i_real_slides : Int32) (i_real_struck : Int32) (i_real_slid : Int32) (i_real_state_now : Int32) (a_real_state_debt : Nat → Int32) (p1 : Int32) (p2 : Int32) (o9 : Int32) (hf : fX11_debt i_town_houses a_real_state_debt p1 p2 = some o9) : CI l E yX11_debt cX11_debt 3 (some .int) 2 [.ref q0, .int p1, .int p2] (WX11_debt E q0 q0_text q0_town q0_weather q0_rule q0_acts q0_real q0_trial q0_round q0_nights q0_before q0_history q0_kept q0_keptHouses q0_shortest q0_tracks q0_tally q0_told q0_town_hold q0_town_below q0_town_hay q0_real_state q0_real_owedBy q0_real_state_snow q0_real_state_path q0_real_state_debt i_toldCount i_town_houses i_real_owed i_real_slides i_real_struck i_real_slid i_real_state_now a_real_state_debt) (WX11_debt E q0 q0_text q0_town q0_weather q0_rule q0_acts q0_real q0_trial q0_round q0_nights q0_before q0_history q0_kept q0_keptHouses q0_shortest q0_tracks q0_tally q0_told q0_town_hold q0_town_below q0_town_hay q0_real_state q0_real_owedBy q0_real_state_snow q0_real_state_path q0_real_state_debt i_toldCount i_town_houses i_real_owed i_real_slides i_real_struck i_real_slid i_real_state_now a_real_state_debt) o9 := by
  refine begI (by decide +kernel) (Nat.le_of_ble_eq_true rfl) ?_
  intro p e s m args below meth c A Q C hA hret
  have hx := C.1
  have hb := C.2.1
  intro H locs ls hl hP hD hS
  have hl : lv_has ls 3 [(0, .ref q0), (1, .int p1), (2, .int p2)] := hl
  unfold fX11_debt at hf
  refine lv_aload_n hx hb dX11_debt_0 rfl (lv_at hl 0 rfl) ?_
  refine gf_RX11_19 C hP 0 rfl rfl dX11_debt_1 ?_
  refine lv_iload_n hx hb dX11_debt_4 rfl (lv_at hl 1 rfl) ?_
  refine lv_iload_n hx hb dX11_debt_5 rfl (lv_at hl 2 rfl) ?_
  obtain ⟨o1, hg2, hf⟩ := bd_some hf
  refine k_VI2 (As := [.int p1, .int p2]) C K_RX11_198 (Nat.le_of_ble_eq_true rfl) (Nat.le_of_ble_eq_true rfl) (kX7_hasTwo l E q0_town q0_town_hold q0_town_below q0_town_hay i_town_houses p1 p2 o1 hg2) [1] rfl rfl rfl (ci := 7) rfl rfl (q0 := 0) rfl hP hD hS hA hl.1 (Nat.le_of_ble_eq_true rfl) rfl dX11_debt_6 (ws2 := (WX11_debt E q0 q0_text q0_town q0_weather q0_rule q0_acts q0_real q0_trial q0_round q0_nights q0_before q0_history q0_kept q0_keptHouses q0_shortest q0_tracks q0_tally q0_told q0_town_hold q0_town_below q0_town_hay q0_real_state q0_real_owedBy q0_real_state_snow q0_real_state_path q0_real_state_debt i_toldCount i_town_houses i_real_owed i_real_slides i_real_struck i_real_slid i_real_state_now a_real_state_debt)) 5 [0, 2, 3, 4] rfl rfl rfl rfl (by decide +kernel) (fun H locs hP hD hS => ?_)
  refine lv_if_eq (tgt := 32) hx hb dX11_debt_9 (by decide) (fun c3 => ?_) (fun c3 => ?_)
  · rw [if_pos c3] at hf
    refine lv_iconst (v := (-1)) hx hb dX11_debt_32 (by decide) ?_
    have hj0 := Option.some.inj hf
    subst hj0
    exact hret _ _ _ _ dX11_debt_33 rfl hP hD hS
  · rw [if_neg c3] at hf
    refine lv_aload_n hx hb dX11_debt_12 rfl (lv_at hl 0 rfl) ?_
    refine gf_RX11_49 C hP 0 rfl rfl dX11_debt_13 ?_
    refine gf_RX11_148 C hP 2 rfl rfl dX11_debt_16 ?_
    refine gf_RX11_202 C hP 3 rfl rfl dX11_debt_19 ?_
    refine lv_iload_n hx hb dX11_debt_22 rfl (lv_at hl 1 rfl) ?_
    refine lv_bipush (v := 7) hx hb dX11_debt_23 (by decide) ?_
    refine lv_imul hx hb dX11_debt_25 ?_
    refine lv_iload_n hx hb dX11_debt_26 rfl (lv_at hl 2 rfl) ?_
    refine lv_iadd hx hb dX11_debt_27 ?_
    obtain ⟨g4, hf⟩ := gd_some hf
    refine va_iald hx hb C.2.2.2.2.2.1 hP 4 0 rfl rfl (vin_in g4) dX11_debt_28 ?_
    refine lv_goto (tgt := 33) hx hb dX11_debt_29 (by decide) ?_
    have hj0 := Option.some.inj hf
    subst hj0
    exact hret _ _ _ _ dX11_debt_33 rfl hP hD hS
theorem q415 : Cond.fieldLink RX11 69 "SnowForSummer" "before" "LSnowForSummer$State;" ∈ Tg := Tg_mem 415 (by decide +kernel) (by decide +kernel)
theorem gf_RX11_69 {p : Program} {l : Launch} {e : Env} {R : Room} {s : State} {m : MethodId} {args : Array Value} {below : List Frame} {meth : Method} {c : Code} {H : Heap} {locs : List Loc} {cells slots : Nat} {Q : State → Prop} {E : ENV} {cc : ByteArray} {n : Nat} {r : Option FieldType} {pc : Nat} {ls : Array Slot} {rest : List Value} {a : Nat} {ws : va_W} {nm ds : String} {fs : List Value} {A : Nat → Prop} {v : Value} (C : Cx E A ⟨RX11, nm, ds⟩ cc n r p s m args meth c) (hP : va_P E.1 classes ws H) (q0 : Nat) (he : ws[q0]? = some (a, .inr (11, fs))) (hv : fs[9]? = some v) (hdg : decode cc pc = .ok (.getfield 69, 3))
    (kk : W p l e R s m args below meth c H locs cells slots Q (F0 m (pc + 3) ls (v :: rest))) : W p l e R s m args below meth c H locs cells slots Q (F0 m pc ls (.ref a :: rest)) :=
  va_get (C := RX11) (T := TX11) (N := 18) (Ts := wl ⟨RX11, nm, ds⟩ cc n r) C.1 C.2.1 C.2.2.2.2.1 (fun w h => List.mem_cons_of_mem _ (inT11 w h)) C.2.2.2.1 C.2.2.2.2.2.1 hP q0 he rfl 9 (by decide) (C.2.2.2.2.1 _ (List.mem_cons_of_mem _ q415)) (fun _ h9 => h9) hv hdg kk
theorem K_RX11_274 : KV RX11 274 yX5_takeFrom cX5_takeFrom 2 none 1 := ⟨Tg_mem 773 (by decide +kernel) (by decide +kernel), Tg_mem 97 (by decide +kernel) (by decide +kernel), Tg_mem 770 (by decide +kernel) (by decide +kernel), Tg_mem 771 (by decide +kernel) (by decide +kernel), Tg_mem 772 (by decide +kernel) (by decide +kernel), by decide +kernel⟩
theorem K_RX11_277 : KV RX11 277 yX9_clearTally cX9_clearTally 1 none 0 := ⟨Tg_mem 778 (by decide +kernel) (by decide +kernel), Tg_mem 96 (by decide +kernel) (by decide +kernel), Tg_mem 775 (by decide +kernel) (by decide +kernel), Tg_mem 776 (by decide +kernel) (by decide +kernel), Tg_mem 777 (by decide +kernel) (by decide +kernel), by decide +kernel⟩
theorem dX11_startCall_0 : decode cX11_startCall 0 = .ok (.aload_n 0, 1) := by decide +kernel
theorem dX11_startCall_1 : decode cX11_startCall 1 = .ok (.getfield 69, 3) := by decide +kernel
theorem dX11_startCall_4 : decode cX11_startCall 4 = .ok (.aload_n 0, 1) := by decide +kernel
theorem dX11_startCall_5 : decode cX11_startCall 5 = .ok (.getfield 49, 3) := by decide +kernel
theorem dX11_startCall_8 : decode cX11_startCall 8 = .ok (.getfield 148, 3) := by decide +kernel
theorem dX11_startCall_11 : decode cX11_startCall 11 = .ok (.invokevirtual 274, 3) := by decide +kernel
theorem dX11_startCall_14 : decode cX11_startCall 14 = .ok (.aload_n 0, 1) := by decide +kernel
theorem dX11_startCall_15 : decode cX11_startCall 15 = .ok (.getfield 49, 3) := by decide +kernel
theorem dX11_startCall_18 : decode cX11_startCall 18 = .ok (.invokevirtual 277, 3) := by decide +kernel
theorem dX11_startCall_21 : decode cX11_startCall 21 = .ok (.return_, 1) := by decide +kernel
def WX11_startCall (E : ENV) (q0 : Nat) (q0_text : Nat) (q0_town : Nat) (q0_weather : Nat) (q0_rule : Nat) (q0_acts : Nat) (q0_real : Nat) (q0_trial : Nat) (q0_round : Nat) (q0_nights : Nat) (q0_before : Nat) (q0_history : Nat) (q0_kept : Nat) (q0_keptHouses : Nat) (q0_shortest : Nat) (q0_tracks : Nat) (q0_tally : Nat) (q0_told : Nat) (q0_real_state : Nat) (q0_real_owedBy : Nat) (q0_before_snow : Nat) (q0_before_path : Nat) (q0_before_debt : Nat) (q0_real_state_snow : Nat) (q0_real_state_path : Nat) (q0_real_state_debt : Nat) (i_toldCount : Int32) (i_real_owed : Int32) (i_real_slides : Int32) (i_real_struck : Int32) (i_real_slid : Int32) (i_before_now : Int32) (i_real_state_now : Int32) (a_before_snow : Nat → Int32) (a_before_path : Nat → Int32) (a_before_debt : Nat → Int32) (a_real_state_snow : Nat → Int32) (a_real_state_path : Nat → Int32) (a_real_state_debt : Nat → Int32) (a_real_owedBy : Nat → Int32) : va_W := [(q0, .inr (11, [.ref q0_text, .ref q0_town, .ref q0_weather, .ref q0_rule, .ref q0_acts, .ref q0_real, .ref q0_trial, .ref q0_round, .ref q0_nights, .ref q0_before, .ref q0_history, .ref q0_kept, .ref q0_keptHouses, .ref q0_shortest, .ref q0_tracks, .ref q0_tally, .ref q0_told, .int i_toldCount])), (q0_real, .inr (9, [.ref q0_town, .ref q0_weather, .ref q0_rule, .ref q0_real_state, .ref q0_real_owedBy, .int i_real_owed, .int i_real_slides, .int i_real_struck, .int i_real_slid])), (q0_before, .inr (5, [.ref q0_before_snow, .ref q0_before_path, .ref q0_before_debt, .int i_before_now])), (q0_real_state, .inr (5, [.ref q0_real_state_snow, .ref q0_real_state_path, .ref q0_real_state_debt, .int i_real_state_now])), (q0_before_snow, .inl (E.2.1, 14, .inl a_before_snow)), (q0_before_path, .inl (E.2.1, 7, .inl a_before_path)), (q0_before_debt, .inl (E.2.1, 49, .inl a_before_debt)), (q0_real_state_snow, .inl (E.2.1, 14, .inl a_real_state_snow)), (q0_real_state_path, .inl (E.2.1, 7, .inl a_real_state_path)), (q0_real_state_debt, .inl (E.2.1, 49, .inl a_real_state_debt)), (q0_real_owedBy, .inl (E.2.1, 7, .inl a_real_owedBy))]
set_option maxHeartbeats 4000000 in
set_option maxRecDepth 20000 in
theorem kX11_startCall (l : Launch) (E : ENV) (q0 : Nat) (q0_text : Nat) (q0_town : Nat) (q0_weather : Nat) (q0_rule : Nat) (q0_acts : Nat) (q0_real : Nat) (q0_trial : Nat) (q0_round : Nat) (q0_nights : Nat) (q0_before : Nat) (q0_history : Nat) (q0_kept : Nat) (q0_keptHouses : Nat) (q0_shortest : Nat) (q0_tracks : Nat) (q0_tally : Nat) (q0_told : Nat) (q0_real_state : Nat) (q0_real_owedBy : Nat) (q0_before_snow : Nat) (q0_before_path : Nat) (q0_before_debt : Nat) (q0_real_state_snow : Nat) (q0_real_state_path : Nat) (q0_real_state_debt : Nat) (i_toldCount : Int32) (i_real_owed : Int32) (i_real_slides : Int32) (i_real_struck : Int32) (i_real_slid : Int32) (i_before_now : Int32) (i_real_state_now : Int32) (a_before_snow : Nat → Int32) (a_before_path : Nat → Int32) (a_before_debt : Nat → Int32) (a_real_state_snow : Nat → Int32) (a_real_state_path : Nat → Int32) (a_real_state_debt : Nat → Int32) (a_real_owedBy : Nat → Int32) (o9 : Int32 × Int32 × Int32 × Int32 × Int32 × (Nat → Int32) × (Nat → Int32) × (Nat → Int32) × (Nat → Int32)) (hf : fX11_startCall i_real_owed i_real_slides i_real_struck i_real_slid i_before_now i_real_state_now a_before_snow a_before_path a_before_debt a_real_state_snow a_real_state_path a_real_state_debt a_real_owedBy = some o9) : CV l E yX11_startCall cX11_startCall 1 2 [.ref q0] (WX11_startCall E q0 q0_text q0_town q0_weather q0_rule q0_acts q0_real q0_trial q0_round q0_nights q0_before q0_history q0_kept q0_keptHouses q0_shortest q0_tracks q0_tally q0_told q0_real_state q0_real_owedBy q0_before_snow q0_before_path q0_before_debt q0_real_state_snow q0_real_state_path q0_real_state_debt i_toldCount i_real_owed i_real_slides i_real_struck i_real_slid i_before_now i_real_state_now a_before_snow a_before_path a_before_debt a_real_state_snow a_real_state_path a_real_state_debt a_real_owedBy) (WX11_startCall E q0 q0_text q0_town q0_weather q0_rule q0_acts q0_real q0_trial q0_round q0_nights q0_before q0_history q0_kept q0_keptHouses q0_shortest q0_tracks q0_tally q0_told q0_real_state q0_real_owedBy q0_before_snow q0_before_path q0_before_debt q0_real_state_snow q0_real_state_path q0_real_state_debt i_toldCount o9.1 o9.2.1 o9.2.2.1 o9.2.2.2.1 o9.2.2.2.2.1 i_real_state_now o9.2.2.2.2.2.1 o9.2.2.2.2.2.2.1 o9.2.2.2.2.2.2.2.1 a_real_state_snow a_real_state_path a_real_state_debt o9.2.2.2.2.2.2.2.2) := by
  refine begV (by decide +kernel) (Nat.le_of_ble_eq_true rfl) ?_
  intro p e s m args below meth c A Q C hA hret
  have hx := C.1
  have hb := C.2.1
  intro H locs ls hl hP hD hS
  have hl : lv_has ls 1 [(0, .ref q0)] := hl
  unfold fX11_startCall at hf
  refine lv_aload_n hx hb dX11_startCall_0 rfl (lv_at hl 0 rfl) ?_
  refine gf_RX11_69 C hP 0 rfl rfl dX11_startCall_1 ?_
  refine lv_aload_n hx hb dX11_startCall_4 rfl (lv_at hl 0 rfl) ?_
  refine gf_RX11_49 C hP 0 rfl rfl dX11_startCall_5 ?_
  refine gf_RX11_148 C hP 1 rfl rfl dX11_startCall_8 ?_
  obtain ⟨o1, hg2, hf⟩ := bd_some hf
  refine k_VV2 (As := [.ref q0_real_state]) C K_RX11_274 (Nat.le_of_ble_eq_true rfl) (Nat.le_of_ble_eq_true rfl) (kX5_takeFrom l E q0_before q0_before_snow q0_before_path q0_before_debt q0_real_state q0_real_state_snow q0_real_state_path q0_real_state_debt i_before_now a_before_snow a_before_path a_before_debt i_real_state_now a_real_state_snow a_real_state_path a_real_state_debt o1.1 o1.2.1 o1.2.2.1 o1.2.2.2 hg2) [2, 4, 5, 6, 3, 7, 8, 9] rfl rfl rfl (ci := 5) rfl rfl (q0 := 0) rfl hP hD hS hA hl.1 (Nat.le_of_ble_eq_true rfl) rfl dX11_startCall_11 (ws2 := (WX11_startCall E q0 q0_text q0_town q0_weather q0_rule q0_acts q0_real q0_trial q0_round q0_nights q0_before q0_history q0_kept q0_keptHouses q0_shortest q0_tracks q0_tally q0_told q0_real_state q0_real_owedBy q0_before_snow q0_before_path q0_before_debt q0_real_state_snow q0_real_state_path q0_real_state_debt i_toldCount i_real_owed i_real_slides i_real_struck i_real_slid o1.1 i_real_state_now o1.2.1 o1.2.2.1 o1.2.2.2 a_real_state_snow a_real_state_path a_real_state_debt a_real_owedBy)) 11 [0, 1, 10] rfl rfl rfl rfl (by decide +kernel) (fun H locs hP hD hS => ?_)
  refine lv_aload_n hx hb dX11_startCall_14 rfl (lv_at hl 0 rfl) ?_
  refine gf_RX11_49 C hP 0 rfl rfl dX11_startCall_15 ?_
  obtain ⟨o3, hg4, hf⟩ := bd_some hf
  refine k_VV2 (As := []) C K_RX11_277 (Nat.le_of_ble_eq_true rfl) (Nat.le_of_ble_eq_true rfl) (kX9_clearTally l E q0_real q0_town q0_weather q0_rule q0_real_state q0_real_owedBy i_real_owed i_real_slides i_real_struck i_real_slid a_real_owedBy o3.1 o3.2.1 o3.2.2.1 o3.2.2.2.1 o3.2.2.2.2 hg4) [1, 10] rfl rfl rfl (ci := 9) rfl rfl (q0 := 0) rfl hP hD hS hA hl.1 (Nat.le_of_ble_eq_true rfl) rfl dX11_startCall_18 (ws2 := (WX11_startCall E q0 q0_text q0_town q0_weather q0_rule q0_acts q0_real q0_trial q0_round q0_nights q0_before q0_history q0_kept q0_keptHouses q0_shortest q0_tracks q0_tally q0_told q0_real_state q0_real_owedBy q0_before_snow q0_before_path q0_before_debt q0_real_state_snow q0_real_state_path q0_real_state_debt i_toldCount o3.1 o3.2.1 o3.2.2.1 o3.2.2.2.1 o1.1 i_real_state_now o1.2.1 o1.2.2.1 o1.2.2.2 a_real_state_snow a_real_state_path a_real_state_debt o3.2.2.2.2)) 11 [0, 2, 3, 4, 5, 6, 7, 8, 9] rfl rfl rfl rfl (by decide +kernel) (fun H locs hP hD hS => ?_)
  have hj0 := Option.some.inj hf
  subst hj0
  exact hret _ _ _ _ dX11_startCall_21 hP hD hS
theorem K_RX11_208 : KV RX11 208 yX11_startCall cX11_startCall 1 none 0 := ⟨Tg_mem 769 (by decide +kernel) (by decide +kernel), Tg_mem 90 (by decide +kernel) (by decide +kernel), Tg_mem 766 (by decide +kernel) (by decide +kernel), Tg_mem 768 (by decide +kernel) (by decide +kernel), Tg_mem 13 (by decide +kernel) (by decide +kernel), by decide +kernel⟩
theorem K_RX11_211 : KV RX11 211 yX9_goDays cX9_goDays 3 none 1 := ⟨Tg_mem 783 (by decide +kernel) (by decide +kernel), Tg_mem 96 (by decide +kernel) (by decide +kernel), Tg_mem 780 (by decide +kernel) (by decide +kernel), Tg_mem 781 (by decide +kernel) (by decide +kernel), Tg_mem 782 (by decide +kernel) (by decide +kernel), by decide +kernel⟩
theorem q282 : Cond.fieldLinkNest RX11 215 "SnowForSummer$Walk" "owed" "I" "SnowForSummer" ∈ NL := NL_mem 282 (by decide +kernel) (by decide +kernel)
theorem gf_RX11_215 {p : Program} {l : Launch} {e : Env} {R : Room} {s : State} {m : MethodId} {args : Array Value} {below : List Frame} {meth : Method} {c : Code} {H : Heap} {locs : List Loc} {cells slots : Nat} {Q : State → Prop} {E : ENV} {cc : ByteArray} {n : Nat} {r : Option FieldType} {pc : Nat} {ls : Array Slot} {rest : List Value} {a : Nat} {ws : va_W} {nm ds : String} {fs : List Value} {A : Nat → Prop} {v : Value} (C : Cx E A ⟨RX11, nm, ds⟩ cc n r p s m args meth c) (hP : va_P E.1 classes ws H) (q0 : Nat) (he : ws[q0]? = some (a, .inr (9, fs))) (hv : fs[5]? = some v) (hdg : decode cc pc = .ok (.getfield 215, 3))
    (kk : W p l e R s m args below meth c H locs cells slots Q (F0 m (pc + 3) ls (v :: rest))) : W p l e R s m args below meth c H locs cells slots Q (F0 m pc ls (.ref a :: rest)) :=
  va_getN (C := RX9) (T := TX9) (N := 9) (Ts := wl ⟨RX11, nm, ds⟩ cc n r) C.1 C.2.1 C.2.2.2.2.1 (fun w h => List.mem_cons_of_mem _ (inT9 w h)) C.2.2.2.1 C.2.2.2.2.2.1 hP q0 he rfl 5 (by decide) (va_Nw.use rfl (C.2.2.2.2.2.2.2.2.1 _ q282)) (fun _ h9 => h9) hv hdg kk
theorem K_RX11_218 : KV RX11 218 yX5_onPaths cX5_onPaths 1 (some .int) 0 := ⟨Tg_mem 820 (by decide +kernel) (by decide +kernel), Tg_mem 97 (by decide +kernel) (by decide +kernel), Tg_mem 817 (by decide +kernel) (by decide +kernel), Tg_mem 818 (by decide +kernel) (by decide +kernel), Tg_mem 819 (by decide +kernel) (by decide +kernel), by decide +kernel⟩
theorem q284 : Cond.fieldLinkNest RX11 226 "SnowForSummer$Walk" "slides" "I" "SnowForSummer" ∈ NL := NL_mem 284 (by decide +kernel) (by decide +kernel)
theorem gf_RX11_226 {p : Program} {l : Launch} {e : Env} {R : Room} {s : State} {m : MethodId} {args : Array Value} {below : List Frame} {meth : Method} {c : Code} {H : Heap} {locs : List Loc} {cells slots : Nat} {Q : State → Prop} {E : ENV} {cc : ByteArray} {n : Nat} {r : Option FieldType} {pc : Nat} {ls : Array Slot} {rest : List Value} {a : Nat} {ws : va_W} {nm ds : String} {fs : List Value} {A : Nat → Prop} {v : Value} (C : Cx E A ⟨RX11, nm, ds⟩ cc n r p s m args meth c) (hP : va_P E.1 classes ws H) (q0 : Nat) (he : ws[q0]? = some (a, .inr (9, fs))) (hv : fs[6]? = some v) (hdg : decode cc pc = .ok (.getfield 226, 3))
    (kk : W p l e R s m args below meth c H locs cells slots Q (F0 m (pc + 3) ls (v :: rest))) : W p l e R s m args below meth c H locs cells slots Q (F0 m pc ls (.ref a :: rest)) :=
  va_getN (C := RX9) (T := TX9) (N := 9) (Ts := wl ⟨RX11, nm, ds⟩ cc n r) C.1 C.2.1 C.2.2.2.2.1 (fun w h => List.mem_cons_of_mem _ (inT9 w h)) C.2.2.2.1 C.2.2.2.2.2.1 hP q0 he rfl 6 (by decide) (va_Nw.use rfl (C.2.2.2.2.2.2.2.2.1 _ q284)) (fun _ h9 => h9) hv hdg kk
theorem K_RX11_222 : KV RX11 222 yX2_push cX2_push 2 none 1 := ⟨Tg_mem 827 (by decide +kernel) (by decide +kernel), Tg_mem 99 (by decide +kernel) (by decide +kernel), Tg_mem 824 (by decide +kernel) (by decide +kernel), Tg_mem 825 (by decide +kernel) (by decide +kernel), Tg_mem 826 (by decide +kernel) (by decide +kernel), by decide +kernel⟩
