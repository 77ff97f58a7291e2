theorem dX11_workThrough_0 : decode cX11_workThrough 0 = .ok (.aload_n 0, 1) := by decide +kernel
theorem dX11_workThrough_1 : decode cX11_workThrough 1 = .ok (.getfield 102, 3) := by decide +kernel
theorem dX11_workThrough_4 : decode cX11_workThrough 4 = .ok (.iconst 0, 1) := by decide +kernel
theorem dX11_workThrough_5 : decode cX11_workThrough 5 = .ok (.invokestatic 173, 3) := by decide +kernel
theorem dX11_workThrough_8 : decode cX11_workThrough 8 = .ok (.iconst 0, 1) := by decide +kernel
theorem dX11_workThrough_9 : decode cX11_workThrough 9 = .ok (.istore_n 2, 1) := by decide +kernel
theorem dX11_workThrough_10 : decode cX11_workThrough 10 = .ok (.iload_n 2, 1) := by decide +kernel
theorem dX11_workThrough_11 : decode cX11_workThrough 11 = .ok (.aload_n 0, 1) := by decide +kernel
theorem dX11_workThrough_12 : decode cX11_workThrough 12 = .ok (.getfield 19, 3) := by decide +kernel
theorem dX11_workThrough_15 : decode cX11_workThrough 15 = .ok (.getfield 179, 3) := by decide +kernel
theorem dX11_workThrough_18 : decode cX11_workThrough 18 = .ok (.if_icmp .ge 83, 3) := by decide +kernel
theorem dX11_workThrough_21 : decode cX11_workThrough 21 = .ok (.iload_n 1, 1) := by decide +kernel
theorem dX11_workThrough_22 : decode cX11_workThrough 22 = .ok (.istore_n 3, 1) := by decide +kernel
theorem dX11_workThrough_23 : decode cX11_workThrough 23 = .ok (.iconst 0, 1) := by decide +kernel
theorem dX11_workThrough_24 : decode cX11_workThrough 24 = .ok (.istore 4, 2) := by decide +kernel
theorem dX11_workThrough_26 : decode cX11_workThrough 26 = .ok (.iload 4, 2) := by decide +kernel
theorem dX11_workThrough_28 : decode cX11_workThrough 28 = .ok (.aload_n 0, 1) := by decide +kernel
theorem dX11_workThrough_29 : decode cX11_workThrough 29 = .ok (.getfield 19, 3) := by decide +kernel
theorem dX11_workThrough_32 : decode cX11_workThrough 32 = .ok (.getfield 179, 3) := by decide +kernel
theorem dX11_workThrough_35 : decode cX11_workThrough 35 = .ok (.if_icmp .ge 50, 3) := by decide +kernel
theorem dX11_workThrough_38 : decode cX11_workThrough 38 = .ok (.iload_n 3, 1) := by decide +kernel
theorem dX11_workThrough_39 : decode cX11_workThrough 39 = .ok (.aload_n 0, 1) := by decide +kernel
theorem dX11_workThrough_40 : decode cX11_workThrough 40 = .ok (.getfield 49, 3) := by decide +kernel
theorem dX11_workThrough_43 : decode cX11_workThrough 43 = .ok (.getfield 148, 3) := by decide +kernel
theorem dX11_workThrough_46 : decode cX11_workThrough 46 = .ok (.getfield 202, 3) := by decide +kernel
theorem dX11_workThrough_49 : decode cX11_workThrough 49 = .ok (.iload_n 2, 1) := by decide +kernel
theorem dX11_workThrough_50 : decode cX11_workThrough 50 = .ok (.bipush 7, 2) := by decide +kernel
theorem dX11_workThrough_52 : decode cX11_workThrough 52 = .ok (.imul, 1) := by decide +kernel
theorem dX11_workThrough_53 : decode cX11_workThrough 53 = .ok (.iload 4, 2) := by decide +kernel
theorem dX11_workThrough_55 : decode cX11_workThrough 55 = .ok (.iadd, 1) := by decide +kernel
theorem dX11_workThrough_56 : decode cX11_workThrough 56 = .ok (.iaload, 1) := by decide +kernel
theorem dX11_workThrough_57 : decode cX11_workThrough 57 = .ok (.invokestatic 186, 3) := by decide +kernel
theorem dX11_workThrough_60 : decode cX11_workThrough 60 = .ok (.istore 5, 2) := by decide +kernel
theorem dX11_workThrough_62 : decode cX11_workThrough 62 = .ok (.aload_n 0, 1) := by decide +kernel
theorem dX11_workThrough_63 : decode cX11_workThrough 63 = .ok (.getfield 102, 3) := by decide +kernel
theorem dX11_workThrough_66 : decode cX11_workThrough 66 = .ok (.iload 4, 2) := by decide +kernel
theorem dX11_workThrough_68 : decode cX11_workThrough 68 = .ok (.dup2, 1) := by decide +kernel
theorem dX11_workThrough_69 : decode cX11_workThrough 69 = .ok (.iaload, 1) := by decide +kernel
theorem dX11_workThrough_70 : decode cX11_workThrough 70 = .ok (.iload 5, 2) := by decide +kernel
theorem dX11_workThrough_72 : decode cX11_workThrough 72 = .ok (.iadd, 1) := by decide +kernel
theorem dX11_workThrough_73 : decode cX11_workThrough 73 = .ok (.iastore, 1) := by decide +kernel
theorem dX11_workThrough_74 : decode cX11_workThrough 74 = .ok (.iload_n 3, 1) := by decide +kernel
theorem dX11_workThrough_75 : decode cX11_workThrough 75 = .ok (.iload 5, 2) := by decide +kernel
theorem dX11_workThrough_77 : decode cX11_workThrough 77 = .ok (.isub, 1) := by decide +kernel
theorem dX11_workThrough_78 : decode cX11_workThrough 78 = .ok (.istore_n 3, 1) := by decide +kernel
theorem dX11_workThrough_79 : decode cX11_workThrough 79 = .ok (.iinc 4 1, 3) := by decide +kernel
theorem dX11_workThrough_82 : decode cX11_workThrough 82 = .ok (.goto (-56), 3) := by decide +kernel
theorem dX11_workThrough_85 : decode cX11_workThrough 85 = .ok (.aload_n 0, 1) := by decide +kernel
theorem dX11_workThrough_86 : decode cX11_workThrough 86 = .ok (.getfield 102, 3) := by decide +kernel
theorem dX11_workThrough_89 : decode cX11_workThrough 89 = .ok (.iload_n 2, 1) := by decide +kernel
theorem dX11_workThrough_90 : decode cX11_workThrough 90 = .ok (.dup2, 1) := by decide +kernel
theorem dX11_workThrough_91 : decode cX11_workThrough 91 = .ok (.iaload, 1) := by decide +kernel
theorem dX11_workThrough_92 : decode cX11_workThrough 92 = .ok (.iload_n 3, 1) := by decide +kernel
theorem dX11_workThrough_93 : decode cX11_workThrough 93 = .ok (.iadd, 1) := by decide +kernel
theorem dX11_workThrough_94 : decode cX11_workThrough 94 = .ok (.iastore, 1) := by decide +kernel
theorem dX11_workThrough_95 : decode cX11_workThrough 95 = .ok (.iinc 2 1, 3) := by decide +kernel
theorem dX11_workThrough_98 : decode cX11_workThrough 98 = .ok (.goto (-88), 3) := by decide +kernel
theorem dX11_workThrough_101 : decode cX11_workThrough 101 = .ok (.return_, 1) := by decide +kernel
def WX11_workThrough (E : ENV) (q0 : Nat) (q0_text : Nat) (q0_town : Nat) (q0_weather : Nat) (q0_rule : Nat) (q0_acts : Nat) (q0_real : Nat) (q0_trial : Nat) (q0_round : Nat) (q0_nights : Nat) (q0_before : Nat) (q0_history : Nat) (q0_kept : Nat) (q0_keptHouses : Nat) (q0_shortest : Nat) (q0_tracks : Nat) (q0_tally : Nat) (q0_told : Nat) (q0_town_hold : Nat) (q0_town_below : Nat) (q0_town_hay : Nat) (q0_real_state : Nat) (q0_real_owedBy : Nat) (q0_real_state_snow : Nat) (q0_real_state_path : Nat) (q0_real_state_debt : Nat) (i_toldCount : Int32) (a_tally : Nat → Int32) (i_town_houses : Int32) (i_real_owed : Int32) (i_real_slides : Int32) (i_real_struck : Int32) (i_real_slid : Int32) (i_real_state_now : Int32) (a_real_state_debt : Nat → Int32) : va_W := [(q0, .inr (11, [.ref q0_text, .ref q0_town, .ref q0_weather, .ref q0_rule, .ref q0_acts, .ref q0_real, .ref q0_trial, .ref q0_round, .ref q0_nights, .ref q0_before, .ref q0_history, .ref q0_kept, .ref q0_keptHouses, .ref q0_shortest, .ref q0_tracks, .ref q0_tally, .ref q0_told, .int i_toldCount])), (q0_tally, .inl (E.2.1, 7, .inl a_tally)), (q0_town, .inr (7, [.ref q0_town_hold, .ref q0_town_below, .ref q0_town_hay, .int i_town_houses])), (q0_real, .inr (9, [.ref q0_town, .ref q0_weather, .ref q0_rule, .ref q0_real_state, .ref q0_real_owedBy, .int i_real_owed, .int i_real_slides, .int i_real_struck, .int i_real_slid])), (q0_real_state, .inr (5, [.ref q0_real_state_snow, .ref q0_real_state_path, .ref q0_real_state_debt, .int i_real_state_now])), (q0_real_state_debt, .inl (E.2.1, 49, .inl a_real_state_debt))]
set_option maxHeartbeats 4000000 in
set_option maxRecDepth 20000 in
theorem kX11_workThrough (l : Launch) (E : ENV) (q0 : Nat) (q0_text : Nat) (q0_town : Nat) (q0_weather : Nat) (q0_rule : Nat) (q0_acts : Nat) (q0_real : Nat) (q0_trial : Nat) (q0_round : Nat) (q0_nights : Nat) (q0_before : Nat) (q0_history : Nat) (q0_kept : Nat) (q0_keptHouses : Nat) (q0_shortest : Nat) (q0_tracks : Nat) (q0_tally : Nat) (q0_told : Nat) (q0_town_hold : Nat) (q0_town_below : Nat) (q0_town_hay : Nat) (q0_real_state : Nat) (q0_real_owedBy : Nat) (q0_real_state_snow : Nat) (q0_real_state_path : Nat) (q0_real_state_debt : Nat) (i_toldCount : Int32) (a_tally : Nat → Int32) (i_town_houses : Int32) (i_real_owed : Int32) (i_real_slides : Int32) (i_real_struck : Int32) (i_real_slid : Int32) (i_real_state_now : Int32) (a_real_state_debt : Nat → Int32) (p1 : Int32) (o9 : (Nat → Int32)) (hf : fX11_workThrough a_tally i_town_houses a_real_state_debt p1 = some o9) : CV l E yX11_workThrough cX11_workThrough 6 1 [.ref q0, .int p1] (WX11_workThrough E q0 q0_text q0_town q0_weather q0_rule q0_acts q0_real q0_trial q0_round q0_nights q0_before q0_history q0_kept q0_keptHouses q0_shortest q0_tracks q0_tally q0_told q0_town_hold q0_town_below q0_town_hay q0_real_state q0_real_owedBy q0_real_state_snow q0_real_state_path q0_real_state_debt i_toldCount a_tally i_town_houses i_real_owed i_real_slides i_real_struck i_real_slid i_real_state_now a_real_state_debt) (WX11_workThrough E q0 q0_text q0_town q0_weather q0_rule q0_acts q0_real q0_trial q0_round q0_nights q0_before q0_history q0_kept q0_keptHouses q0_shortest q0_tracks q0_tally q0_told q0_town_hold q0_town_below q0_town_hay q0_real_state q0_real_owedBy q0_real_state_snow q0_real_state_path q0_real_state_debt i_toldCount o9 i_town_houses i_real_owed i_real_slides i_real_struck i_real_slid i_real_state_now a_real_state_debt) := by
  refine begV (by decide +kernel) (Nat.le_of_ble_eq_true rfl) ?_
  intro p e s m args below meth c A Q C hA hret
  have hx := C.1
  have hb := C.2.1
  have L10 : ∀ (n : Nat) (v2 : Int32) (a_tally : Nat → Int32) (o : (Nat → Int32)), fX11_workThrough_L10 i_town_houses a_real_state_debt p1 n v2 a_tally = some o → (GO p l e 1 s m args below meth c Q E A 6 101 [] [] (WX11_workThrough E q0 q0_text q0_town q0_weather q0_rule q0_acts q0_real q0_trial q0_round q0_nights q0_before q0_history q0_kept q0_keptHouses q0_shortest q0_tracks q0_tally q0_told q0_town_hold q0_town_below q0_town_hay q0_real_state q0_real_owedBy q0_real_state_snow q0_real_state_path q0_real_state_debt i_toldCount o i_town_houses i_real_owed i_real_slides i_real_struck i_real_slid i_real_state_now a_real_state_debt)) → GO p l e 1 s m args below meth c Q E A 6 10 [] [(0, .ref q0), (1, .int p1), (2, .int v2)] (WX11_workThrough E q0 q0_text q0_town q0_weather q0_rule q0_acts q0_real q0_trial q0_round q0_nights q0_before q0_history q0_kept q0_keptHouses q0_shortest q0_tracks q0_tally q0_told q0_town_hold q0_town_below q0_town_hay q0_real_state q0_real_owedBy q0_real_state_snow q0_real_state_path q0_real_state_debt i_toldCount a_tally i_town_houses i_real_owed i_real_slides i_real_struck i_real_slid i_real_state_now a_real_state_debt) := by
    intro n
    induction n with
    | zero =>
      intro v2 a_tally o hf
      have hf : none = some o := hf
      cases hf
    | succ n ih =>
      intro v2 a_tally o hf hE
      have L26 : ∀ (v2 : Int32), ∀ (n : Nat) (v3 : Int32) (v4 : Int32) (a_tally : Nat → Int32) (o : Int32 × (Nat → Int32)), fX11_workThrough_L26 i_town_houses a_real_state_debt v2 n v3 v4 a_tally = some o → (GO p l e 1 s m args below meth c Q E A 6 85 [] [(0, .ref q0), (1, .int p1), (2, .int v2), (3, .int o.1)] (WX11_workThrough E q0 q0_text q0_town q0_weather q0_rule q0_acts q0_real q0_trial q0_round q0_nights q0_before q0_history q0_kept q0_keptHouses q0_shortest q0_tracks q0_tally q0_told q0_town_hold q0_town_below q0_town_hay q0_real_state q0_real_owedBy q0_real_state_snow q0_real_state_path q0_real_state_debt i_toldCount o.2 i_town_houses i_real_owed i_real_slides i_real_struck i_real_slid i_real_state_now a_real_state_debt)) → GO p l e 1 s m args below meth c Q E A 6 26 [] [(0, .ref q0), (1, .int p1), (2, .int v2), (3, .int v3), (4, .int v4)] (WX11_workThrough E q0 q0_text q0_town q0_weather q0_rule q0_acts q0_real q0_trial q0_round q0_nights q0_before q0_history q0_kept q0_keptHouses q0_shortest q0_tracks q0_tally q0_told q0_town_hold q0_town_below q0_town_hay q0_real_state q0_real_owedBy q0_real_state_snow q0_real_state_path q0_real_state_debt i_toldCount a_tally i_town_houses i_real_owed i_real_slides i_real_struck i_real_slid i_real_state_now a_real_state_debt) := by
        intro v2
        intro n
        induction n with
        | zero =>
          intro v3 v4 a_tally o hf
          have hf : none = some o := hf
          cases hf
        | succ n ih =>
          intro v3 v4 a_tally o hf hE
          intro H locs ls hl hP hD hS
          rw [fX11_workThrough_L26] at hf
          refine lv_iload hx hb dX11_workThrough_26 (lv_at hl 4 rfl) ?_
          refine lv_aload_n hx hb dX11_workThrough_28 rfl (lv_at hl 0 rfl) ?_
          refine gf_RX11_19 C hP 0 rfl rfl dX11_workThrough_29 ?_
          refine gf_RX11_179 C hP 2 rfl rfl dX11_workThrough_32 ?_
          refine lv_icmp_ge (tgt := 85) hx hb dX11_workThrough_35 (by decide) (fun c4 => ?_) (fun c4 => ?_)
          · rw [if_pos c4] at hf
            have hf := Option.some.inj hf
            subst hf
            exact hE _ _ _ (lv_sub hl [0, 1, 2, 3] rfl) hP hD hS
          · rw [if_neg c4] at hf
            refine lv_iload_n hx hb dX11_workThrough_38 rfl (lv_at hl 3 rfl) ?_
            refine lv_aload_n hx hb dX11_workThrough_39 rfl (lv_at hl 0 rfl) ?_
            refine gf_RX11_49 C hP 0 rfl rfl dX11_workThrough_40 ?_
            refine gf_RX11_148 C hP 3 rfl rfl dX11_workThrough_43 ?_
            refine gf_RX11_202 C hP 4 rfl rfl dX11_workThrough_46 ?_
            refine lv_iload_n hx hb dX11_workThrough_49 rfl (lv_at hl 2 rfl) ?_
            refine lv_bipush (v := 7) hx hb dX11_workThrough_50 (by decide) ?_
            refine lv_imul hx hb dX11_workThrough_52 ?_
            refine lv_iload hx hb dX11_workThrough_53 (lv_at hl 4 rfl) ?_
            refine lv_iadd hx hb dX11_workThrough_55 ?_
            obtain ⟨g5, hf⟩ := gd_some hf
            refine va_iald hx hb C.2.2.2.2.2.1 hP 5 0 rfl rfl (vin_in g5) dX11_workThrough_56 ?_
            refine r_min C q731 (Nat.le_of_ble_eq_true rfl) hl.1 (Nat.le_of_ble_eq_true rfl) dX11_workThrough_57 ?_
            refine lv_istore (lv' := [(5, .int ((mn v3 ((a_real_state_debt ((((v2 * 7)) + v4) : Int32).toNatClampNeg))))), (0, .ref q0), (1, .int p1), (2, .int v2), (3, .int v3), (4, .int v4)]) hx hb dX11_workThrough_60 hl (by decide) rfl (fun ls hl => ?_)
            refine lv_aload_n hx hb dX11_workThrough_62 rfl (lv_at hl 1 rfl) ?_
            refine gf_RX11_102 C hP 0 rfl rfl dX11_workThrough_63 ?_
            refine lv_iload hx hb dX11_workThrough_66 (lv_at hl 5 rfl) ?_
            refine lv_dup2_11 hx hb dX11_workThrough_68 rfl rfl ?_
            obtain ⟨g6, hf⟩ := gd_some hf
            refine va_iald hx hb C.2.2.2.2.2.1 hP 1 0 rfl rfl (vin_in g6) dX11_workThrough_69 ?_
            refine lv_iload hx hb dX11_workThrough_70 (lv_at hl 0 rfl) ?_
            refine lv_iadd hx hb dX11_workThrough_72 ?_
            obtain ⟨g7, hf⟩ := gd_some hf
            refine va_iast hx hb C.2.2.2.2.2.1 hP hD hS 1 0 rfl rfl (vin_in g7) dX11_workThrough_73 (fun H locs hP hD hS => ?_)
            have hP : va_P E.1 classes (WX11_workThrough E q0 q0_text q0_town q0_weather q0_rule q0_acts q0_real q0_trial q0_round q0_nights q0_before q0_history q0_kept q0_keptHouses q0_shortest q0_tracks q0_tally q0_told q0_town_hold q0_town_below q0_town_hay q0_real_state q0_real_owedBy q0_real_state_snow q0_real_state_path q0_real_state_debt i_toldCount ((upd a_tally (v4 : Int32).toNatClampNeg ((((a_tally (v4 : Int32).toNatClampNeg)) + ((mn v3 ((a_real_state_debt ((((v2 * 7)) + v4) : Int32).toNatClampNeg)))))))) i_town_houses i_real_owed i_real_slides i_real_struck i_real_slid i_real_state_now a_real_state_debt) H := hP
            have hD : va_D A (WX11_workThrough E q0 q0_text q0_town q0_weather q0_rule q0_acts q0_real q0_trial q0_round q0_nights q0_before q0_history q0_kept q0_keptHouses q0_shortest q0_tracks q0_tally q0_told q0_town_hold q0_town_below q0_town_hay q0_real_state q0_real_owedBy q0_real_state_snow q0_real_state_path q0_real_state_debt i_toldCount ((upd a_tally (v4 : Int32).toNatClampNeg ((((a_tally (v4 : Int32).toNatClampNeg)) + ((mn v3 ((a_real_state_debt ((((v2 * 7)) + v4) : Int32).toNatClampNeg)))))))) i_town_houses i_real_owed i_real_slides i_real_struck i_real_slid i_real_state_now a_real_state_debt) := hD
            refine lv_iload_n hx hb dX11_workThrough_74 rfl (lv_at hl 4 rfl) ?_
            refine lv_iload hx hb dX11_workThrough_75 (lv_at hl 0 rfl) ?_
            refine lv_isub hx hb dX11_workThrough_77 ?_
            refine lv_istore_n (lv' := [(3, .int ((v3 - ((mn v3 ((a_real_state_debt ((((v2 * 7)) + v4) : Int32).toNatClampNeg))))))), (5, .int ((mn v3 ((a_real_state_debt ((((v2 * 7)) + v4) : Int32).toNatClampNeg))))), (0, .ref q0), (1, .int p1), (2, .int v2), (4, .int v4)]) hx hb dX11_workThrough_78 rfl hl (by decide) rfl (fun ls hl => ?_)
            refine lv_iinc (v := (v4 + 1)) (lv' := [(4, .int ((v4 + 1))), (3, .int ((v3 - ((mn v3 ((a_real_state_debt ((((v2 * 7)) + v4) : Int32).toNatClampNeg))))))), (5, .int ((mn v3 ((a_real_state_debt ((((v2 * 7)) + v4) : Int32).toNatClampNeg))))), (0, .ref q0), (1, .int p1), (2, .int v2)]) hx hb dX11_workThrough_79 hl (k := 5) rfl rfl (by decide) rfl (fun ls hl => ?_)
            refine lv_goto (tgt := 26) hx hb dX11_workThrough_82 (by decide) ?_
            exact ih ((v3 - ((mn v3 ((a_real_state_debt ((((v2 * 7)) + v4) : Int32).toNatClampNeg)))))) ((v4 + 1)) ((upd a_tally (v4 : Int32).toNatClampNeg ((((a_tally (v4 : Int32).toNatClampNeg)) + ((mn v3 ((a_real_state_debt ((((v2 * 7)) + v4) : Int32).toNatClampNeg)))))))) _ hf hE _ _ _ (lv_sub hl [3, 4, 5, 1, 0] rfl) hP hD hS
      intro H locs ls hl hP hD hS
      rw [fX11_workThrough_L10] at hf
      refine lv_iload_n hx hb dX11_workThrough_10 rfl (lv_at hl 2 rfl) ?_
      refine lv_aload_n hx hb dX11_workThrough_11 rfl (lv_at hl 0 rfl) ?_
      refine gf_RX11_19 C hP 0 rfl rfl dX11_workThrough_12 ?_
      refine gf_RX11_179 C hP 2 rfl rfl dX11_workThrough_15 ?_
      refine lv_icmp_ge (tgt := 101) hx hb dX11_workThrough_18 (by decide) (fun c3 => ?_) (fun c3 => ?_)
      · rw [if_pos c3] at hf
        have hf := Option.some.inj hf
        subst hf
        exact hE _ _ _ (lv_sub hl [] rfl) hP hD hS
      · rw [if_neg c3] at hf
        refine lv_iload_n hx hb dX11_workThrough_21 rfl (lv_at hl 1 rfl) ?_
        refine lv_istore_n (lv' := [(3, .int p1), (0, .ref q0), (1, .int p1), (2, .int v2)]) hx hb dX11_workThrough_22 rfl hl (by decide) rfl (fun ls hl => ?_)
        refine lv_iconst (v := 0) hx hb dX11_workThrough_23 (by decide) ?_
        refine lv_istore (lv' := [(4, .int 0), (3, .int p1), (0, .ref q0), (1, .int p1), (2, .int v2)]) hx hb dX11_workThrough_24 hl (by decide) rfl (fun ls hl => ?_)
        obtain ⟨o8, hg9, hf⟩ := bd_some hf
        refine L26 v2 FU p1 0 a_tally o8 hg9 ?_ _ _ _ (lv_sub hl [2, 3, 4, 1, 0] rfl) hP hD hS
        intro H locs ls hl hP hD hS
        refine lv_aload_n hx hb dX11_workThrough_85 rfl (lv_at hl 0 rfl) ?_
        refine gf_RX11_102 C hP 0 rfl rfl dX11_workThrough_86 ?_
        refine lv_iload_n hx hb dX11_workThrough_89 rfl (lv_at hl 2 rfl) ?_
        refine lv_dup2_11 hx hb dX11_workThrough_90 rfl rfl ?_
        obtain ⟨g10, hf⟩ := gd_some hf
        refine va_iald hx hb C.2.2.2.2.2.1 hP 1 0 rfl rfl (vin_in g10) dX11_workThrough_91 ?_
        refine lv_iload_n hx hb dX11_workThrough_92 rfl (lv_at hl 3 rfl) ?_
        refine lv_iadd hx hb dX11_workThrough_93 ?_
        obtain ⟨g11, hf⟩ := gd_some hf
        refine va_iast hx hb C.2.2.2.2.2.1 hP hD hS 1 0 rfl rfl (vin_in g11) dX11_workThrough_94 (fun H locs hP hD hS => ?_)
        have hP : va_P E.1 classes (WX11_workThrough E q0 q0_text q0_town q0_weather q0_rule q0_acts q0_real q0_trial q0_round q0_nights q0_before q0_history q0_kept q0_keptHouses q0_shortest q0_tracks q0_tally q0_told q0_town_hold q0_town_below q0_town_hay q0_real_state q0_real_owedBy q0_real_state_snow q0_real_state_path q0_real_state_debt i_toldCount ((upd o8.2 (v2 : Int32).toNatClampNeg ((((o8.2 (v2 : Int32).toNatClampNeg)) + o8.1)))) i_town_houses i_real_owed i_real_slides i_real_struck i_real_slid i_real_state_now a_real_state_debt) H := hP
        have hD : va_D A (WX11_workThrough E q0 q0_text q0_town q0_weather q0_rule q0_acts q0_real q0_trial q0_round q0_nights q0_before q0_history q0_kept q0_keptHouses q0_shortest q0_tracks q0_tally q0_told q0_town_hold q0_town_below q0_town_hay q0_real_state q0_real_owedBy q0_real_state_snow q0_real_state_path q0_real_state_debt i_toldCount ((upd o8.2 (v2 : Int32).toNatClampNeg ((((o8.2 (v2 : Int32).toNatClampNeg)) + o8.1)))) i_town_houses i_real_owed i_real_slides i_real_struck i_real_slid i_real_state_now a_real_state_debt) := hD
        refine lv_iinc (v := (v2 + 1)) (lv' := [(2, .int ((v2 + 1))), (0, .ref q0), (1, .int p1), (3, .int o8.1)]) hx hb dX11_workThrough_95 hl (k := 2) rfl rfl (by decide) rfl (fun ls hl => ?_)
        refine lv_goto (tgt := 10) hx hb dX11_workThrough_98 (by decide) ?_
        exact ih ((v2 + 1)) ((upd o8.2 (v2 : Int32).toNatClampNeg ((((o8.2 (v2 : Int32).toNatClampNeg)) + o8.1)))) _ hf hE _ _ _ (lv_sub hl [1, 2, 0] rfl) hP hD hS
  intro H locs ls hl hP hD hS
  have hl : lv_has ls 6 [(0, .ref q0), (1, .int p1)] := hl
  unfold fX11_workThrough at hf
  refine lv_aload_n hx hb dX11_workThrough_0 rfl (lv_at hl 0 rfl) ?_
  refine gf_RX11_102 C hP 0 rfl rfl dX11_workThrough_1 ?_
  refine lv_iconst (v := 0) hx hb dX11_workThrough_4 (by decide) ?_
  obtain ⟨o1, hg2, hf⟩ := bd_some hf
  refine k_SV2 (As := [.ref q0_tally, .int 0]) C K_RX11_173 (Nat.le_of_ble_eq_true rfl) (Nat.le_of_ble_eq_true rfl) (kJ7_fill_53178 l E q0_tally 7 a_tally 0 o1 hg2) [1] rfl rfl rfl  hP hD hS hA hl.1 (Nat.le_of_ble_eq_true rfl) rfl dX11_workThrough_5 (ws2 := (WX11_workThrough E q0 q0_text q0_town q0_weather q0_rule q0_acts q0_real q0_trial q0_round q0_nights q0_before q0_history q0_kept q0_keptHouses q0_shortest q0_tracks q0_tally q0_told q0_town_hold q0_town_below q0_town_hay q0_real_state q0_real_owedBy q0_real_state_snow q0_real_state_path q0_real_state_debt i_toldCount o1 i_town_houses i_real_owed i_real_slides i_real_struck i_real_slid i_real_state_now a_real_state_debt)) 6 [0, 2, 3, 4, 5] rfl rfl rfl rfl (by decide +kernel) (fun H locs hP hD hS => ?_)
  refine lv_iconst (v := 0) hx hb dX11_workThrough_8 (by decide) ?_
  refine lv_istore_n (lv' := [(2, .int 0), (0, .ref q0), (1, .int p1)]) hx hb dX11_workThrough_9 rfl hl (by decide) rfl (fun ls hl => ?_)
  obtain ⟨o12, hg13, hf⟩ := bd_some hf
  refine L10 FU 0 o1 o12 hg13 ?_ _ _ _ (lv_sub hl [1, 2, 0] rfl) hP hD hS
  intro H locs ls hl hP hD hS
  have hj0 := Option.some.inj hf
  subst hj0
  exact hret _ _ _ _ dX11_workThrough_101 hP hD hS
theorem K_RX11_324 : KV RX11 324 yX11_workThrough cX11_workThrough 6 none 1 := ⟨Tg_mem 1018 (by decide +kernel) (by decide +kernel), Tg_mem 90 (by decide +kernel) (by decide +kernel), Tg_mem 1015 (by decide +kernel) (by decide +kernel), Tg_mem 1017 (by decide +kernel) (by decide +kernel), Tg_mem 29 (by decide +kernel) (by decide +kernel), by decide +kernel⟩
theorem dX11_hay_0 : decode cX11_hay 0 = .ok (.iload_n 1, 1) := by decide +kernel
theorem dX11_hay_1 : decode cX11_hay 1 = .ok (.iconst 0, 1) := by decide +kernel
theorem dX11_hay_2 : decode cX11_hay 2 = .ok (.bipush 60, 2) := by decide +kernel
theorem dX11_hay_4 : decode cX11_hay 4 = .ok (.invokestatic 128, 3) := by decide +kernel
theorem dX11_hay_7 : decode cX11_hay 7 = .ok (.ifCond .ne 5, 3) := by decide +kernel
theorem dX11_hay_10 : decode cX11_hay 10 = .ok (.iconst (-1), 1) := by decide +kernel
theorem dX11_hay_11 : decode cX11_hay 11 = .ok (.ireturn, 1) := by decide +kernel
theorem dX11_hay_12 : decode cX11_hay 12 = .ok (.iconst 0, 1) := by decide +kernel
theorem dX11_hay_13 : decode cX11_hay 13 = .ok (.istore_n 2, 1) := by decide +kernel
theorem dX11_hay_14 : decode cX11_hay 14 = .ok (.iconst 0, 1) := by decide +kernel
theorem dX11_hay_15 : decode cX11_hay 15 = .ok (.istore_n 3, 1) := by decide +kernel
theorem dX11_hay_16 : decode cX11_hay 16 = .ok (.aload_n 0, 1) := by decide +kernel
theorem dX11_hay_17 : decode cX11_hay 17 = .ok (.iload_n 1, 1) := by decide +kernel
theorem dX11_hay_18 : decode cX11_hay 18 = .ok (.invokevirtual 324, 3) := by decide +kernel
theorem dX11_hay_21 : decode cX11_hay 21 = .ok (.iconst 0, 1) := by decide +kernel
theorem dX11_hay_22 : decode cX11_hay 22 = .ok (.istore 4, 2) := by decide +kernel
theorem dX11_hay_24 : decode cX11_hay 24 = .ok (.iload 4, 2) := by decide +kernel
theorem dX11_hay_26 : decode cX11_hay 26 = .ok (.aload_n 0, 1) := by decide +kernel
theorem dX11_hay_27 : decode cX11_hay 27 = .ok (.getfield 19, 3) := by decide +kernel
theorem dX11_hay_30 : decode cX11_hay 30 = .ok (.getfield 179, 3) := by decide +kernel
theorem dX11_hay_33 : decode cX11_hay 33 = .ok (.if_icmp .ge 60, 3) := by decide +kernel
theorem dX11_hay_36 : decode cX11_hay 36 = .ok (.aload_n 0, 1) := by decide +kernel
theorem dX11_hay_37 : decode cX11_hay 37 = .ok (.getfield 102, 3) := by decide +kernel
theorem dX11_hay_40 : decode cX11_hay 40 = .ok (.iload 4, 2) := by decide +kernel
theorem dX11_hay_42 : decode cX11_hay 42 = .ok (.iaload, 1) := by decide +kernel
theorem dX11_hay_43 : decode cX11_hay 43 = .ok (.aload_n 0, 1) := by decide +kernel
theorem dX11_hay_44 : decode cX11_hay 44 = .ok (.getfield 19, 3) := by decide +kernel
theorem dX11_hay_47 : decode cX11_hay 47 = .ok (.getfield 160, 3) := by decide +kernel
theorem dX11_hay_50 : decode cX11_hay 50 = .ok (.iload 4, 2) := by decide +kernel
theorem dX11_hay_52 : decode cX11_hay 52 = .ok (.iaload, 1) := by decide +kernel
theorem dX11_hay_53 : decode cX11_hay 53 = .ok (.if_icmp .lt 13, 3) := by decide +kernel
theorem dX11_hay_56 : decode cX11_hay 56 = .ok (.iload_n 2, 1) := by decide +kernel
theorem dX11_hay_57 : decode cX11_hay 57 = .ok (.iconst 1, 1) := by decide +kernel
theorem dX11_hay_58 : decode cX11_hay 58 = .ok (.iload 4, 2) := by decide +kernel
theorem dX11_hay_60 : decode cX11_hay 60 = .ok (.ishl, 1) := by decide +kernel
theorem dX11_hay_61 : decode cX11_hay 61 = .ok (.ior, 1) := by decide +kernel
theorem dX11_hay_62 : decode cX11_hay 62 = .ok (.istore_n 2, 1) := by decide +kernel
theorem dX11_hay_63 : decode cX11_hay 63 = .ok (.goto 24, 3) := by decide +kernel
theorem dX11_hay_66 : decode cX11_hay 66 = .ok (.iload_n 3, 1) := by decide +kernel
theorem dX11_hay_67 : decode cX11_hay 67 = .ok (.aload_n 0, 1) := by decide +kernel
theorem dX11_hay_68 : decode cX11_hay 68 = .ok (.getfield 19, 3) := by decide +kernel
theorem dX11_hay_71 : decode cX11_hay 71 = .ok (.getfield 160, 3) := by decide +kernel
theorem dX11_hay_74 : decode cX11_hay 74 = .ok (.iload 4, 2) := by decide +kernel
theorem dX11_hay_76 : decode cX11_hay 76 = .ok (.iaload, 1) := by decide +kernel
theorem dX11_hay_77 : decode cX11_hay 77 = .ok (.aload_n 0, 1) := by decide +kernel
theorem dX11_hay_78 : decode cX11_hay 78 = .ok (.getfield 102, 3) := by decide +kernel
theorem dX11_hay_81 : decode cX11_hay 81 = .ok (.iload 4, 2) := by decide +kernel
theorem dX11_hay_83 : decode cX11_hay 83 = .ok (.iaload, 1) := by decide +kernel
theorem dX11_hay_84 : decode cX11_hay 84 = .ok (.isub, 1) := by decide +kernel
theorem dX11_hay_85 : decode cX11_hay 85 = .ok (.iadd, 1) := by decide +kernel
theorem dX11_hay_86 : decode cX11_hay 86 = .ok (.istore_n 3, 1) := by decide +kernel
theorem dX11_hay_87 : decode cX11_hay 87 = .ok (.iinc 4 1, 3) := by decide +kernel
theorem dX11_hay_90 : decode cX11_hay 90 = .ok (.goto (-66), 3) := by decide +kernel
theorem dX11_hay_93 : decode cX11_hay 93 = .ok (.aload_n 0, 1) := by decide +kernel
theorem dX11_hay_94 : decode cX11_hay 94 = .ok (.iload_n 3, 1) := by decide +kernel
theorem dX11_hay_95 : decode cX11_hay 95 = .ok (.invokevirtual 244, 3) := by decide +kernel
theorem dX11_hay_98 : decode cX11_hay 98 = .ok (.iload_n 2, 1) := by decide +kernel
theorem dX11_hay_99 : decode cX11_hay 99 = .ok (.ireturn, 1) := by decide +kernel
def WX11_hay (E : ENV) (q0 : Nat) (q0_text : Nat) (q0_town : Nat) (q0_weather : Nat) (q0_rule : Nat) (q0_acts : Nat) (q0_real : Nat) (q0_trial : Nat) (q0_round : Nat) (q0_nights : Nat) (q0_before : Nat) (q0_history : Nat) (q0_kept : Nat) (q0_keptHouses : Nat) (q0_shortest : Nat) (q0_tracks : Nat) (q0_tally : Nat) (q0_told : Nat) (q0_town_hold : Nat) (q0_town_below : Nat) (q0_town_hay : Nat) (q0_real_state : Nat) (q0_real_owedBy : Nat) (q0_real_state_snow : Nat) (q0_real_state_path : Nat) (q0_real_state_debt : Nat) (i_toldCount : Int32) (i_town_houses : Int32) (i_real_owed : Int32) (i_real_slides : Int32) (i_real_struck : Int32) (i_real_slid : Int32) (i_real_state_now : Int32) (a_tally : Nat → Int32) (a_real_state_debt : Nat → Int32) (a_town_hay : Nat → Int32) (a_told : Nat → Int32) : va_W := [(q0, .inr (11, [.ref q0_text, .ref q0_town, .ref q0_weather, .ref q0_rule, .ref q0_acts, .ref q0_real, .ref q0_trial, .ref q0_round, .ref q0_nights, .ref q0_before, .ref q0_history, .ref q0_kept, .ref q0_keptHouses, .ref q0_shortest, .ref q0_tracks, .ref q0_tally, .ref q0_told, .int i_toldCount])), (q0_town, .inr (7, [.ref q0_town_hold, .ref q0_town_below, .ref q0_town_hay, .int i_town_houses])), (q0_real, .inr (9, [.ref q0_town, .ref q0_weather, .ref q0_rule, .ref q0_real_state, .ref q0_real_owedBy, .int i_real_owed, .int i_real_slides, .int i_real_struck, .int i_real_slid])), (q0_real_state, .inr (5, [.ref q0_real_state_snow, .ref q0_real_state_path, .ref q0_real_state_debt, .int i_real_state_now])), (q0_tally, .inl (E.2.1, 7, .inl a_tally)), (q0_real_state_debt, .inl (E.2.1, 49, .inl a_real_state_debt)), (q0_town_hay, .inl (E.2.1, 7, .inl a_town_hay)), (q0_told, .inl (E.2.1, 8, .inl a_told))]
set_option maxHeartbeats 4000000 in
set_option maxRecDepth 20000 in
theorem kX11_hay (l : Launch) (E : ENV) (q0 : Nat) (q0_text : Nat) (q0_town : Nat) (q0_weather : Nat) (q0_rule : Nat) (q0_acts : Nat) (q0_real : Nat) (q0_trial : Nat) (q0_round : Nat) (q0_nights : Nat) (q0_before : Nat) (q0_history : Nat) (q0_kept : Nat) (q0_keptHouses : Nat) (q0_shortest : Nat) (q0_tracks : Nat) (q0_tally : Nat) (q0_told : Nat) (q0_town_hold : Nat) (q0_town_below : Nat) (q0_town_hay : Nat) (q0_real_state : Nat) (q0_real_owedBy : Nat) (q0_real_state_snow : Nat) (q0_real_state_path : Nat) (q0_real_state_debt : Nat) (i_toldCount : Int32) (i_town_houses : Int32) (i_real_owed : Int32) (i_real_slides : Int32) (i_real_struck : Int32) (i_real_slid : Int32) (i_real_state_now : Int32) (a_tally : Nat → Int32) (a_real_state_debt : Nat → Int32) (a_town_hay : Nat → Int32) (a_told : Nat → Int32) (p1 : Int32) (o9 : Int32 × Int32 × (Nat → Int32) × (Nat → Int32)) (hf : fX11_hay i_toldCount i_town_houses a_tally a_real_state_debt a_town_hay a_told p1 = some o9) : CI l E yX11_hay cX11_hay 5 (some .int) 2 [.ref q0, .int p1] (WX11_hay E q0 q0_text q0_town q0_weather q0_rule q0_acts q0_real q0_trial q0_round q0_nights q0_before q0_history q0_kept q0_keptHouses q0_shortest q0_tracks q0_tally q0_told q0_town_hold q0_town_below q0_town_hay q0_real_state q0_real_owedBy q0_real_state_snow q0_real_state_path q0_real_state_debt i_toldCount i_town_houses i_real_owed i_real_slides i_real_struck i_real_slid i_real_state_now a_tally a_real_state_debt a_town_hay a_told) (WX11_hay E q0 q0_text q0_town q0_weather q0_rule q0_acts q0_real q0_trial q0_round q0_nights q0_before q0_history q0_kept q0_keptHouses q0_shortest q0_tracks q0_tally q0_told q0_town_hold q0_town_below q0_town_hay q0_real_state q0_real_owedBy q0_real_state_snow q0_real_state_path q0_real_state_debt o9.2.1 i_town_houses i_real_owed i_real_slides i_real_struck i_real_slid i_real_state_now o9.2.2.1 a_real_state_debt a_town_hay o9.2.2.2) o9.1 := by
  refine begI (by decide +kernel) (Nat.le_of_ble_eq_true rfl) ?_
  intro p e s m args below meth c A Q C hA hret
  have hx := C.1
  have hb := C.2.1
  have L24 : ∀ (i_toldCount : Int32) (a_tally : Nat → Int32) (a_told : Nat → Int32), ∀ (n : Nat) (v2 : Int32) (v3 : Int32) (v4 : Int32) (o : Int32 × Int32), fX11_hay_L24 i_town_houses a_town_hay a_tally n v2 v3 v4 = some o → (GO p l e 2 s m args below meth c Q E A 5 93 [] [(0, .ref q0), (2, .int o.1), (3, .int o.2)] (WX11_hay E q0 q0_text q0_town q0_weather q0_rule q0_acts q0_real q0_trial q0_round q0_nights q0_before q0_history q0_kept q0_keptHouses q0_shortest q0_tracks q0_tally q0_told q0_town_hold q0_town_below q0_town_hay q0_real_state q0_real_owedBy q0_real_state_snow q0_real_state_path q0_real_state_debt i_toldCount i_town_houses i_real_owed i_real_slides i_real_struck i_real_slid i_real_state_now a_tally a_real_state_debt a_town_hay a_told)) → GO p l e 2 s m args below meth c Q E A 5 24 [] [(0, .ref q0), (2, .int v2), (3, .int v3), (4, .int v4)] (WX11_hay E q0 q0_text q0_town q0_weather q0_rule q0_acts q0_real q0_trial q0_round q0_nights q0_before q0_history q0_kept q0_keptHouses q0_shortest q0_tracks q0_tally q0_told q0_town_hold q0_town_below q0_town_hay q0_real_state q0_real_owedBy q0_real_state_snow q0_real_state_path q0_real_state_debt i_toldCount i_town_houses i_real_owed i_real_slides i_real_struck i_real_slid i_real_state_now a_tally a_real_state_debt a_town_hay a_told) := by
    intro i_toldCount a_tally a_told
    intro n
    induction n with
    | zero =>
      intro v2 v3 v4 o hf
      have hf : none = some o := hf
      cases hf
    | succ n ih =>
      intro v2 v3 v4 o hf hE
      intro H locs ls hl hP hD hS
      rw [fX11_hay_L24] at hf
      refine lv_iload hx hb dX11_hay_24 (lv_at hl 3 rfl) ?_
      refine lv_aload_n hx hb dX11_hay_26 rfl (lv_at hl 0 rfl) ?_
      refine gf_RX11_19 C hP 0 rfl rfl dX11_hay_27 ?_
      refine gf_RX11_179 C hP 1 rfl rfl dX11_hay_30 ?_
      refine lv_icmp_ge (tgt := 93) hx hb dX11_hay_33 (by decide) (fun c6 => ?_) (fun c6 => ?_)
      · rw [if_pos c6] at hf
        have hf := Option.some.inj hf
        subst hf
        exact hE _ _ _ (lv_sub hl [0, 1, 2] rfl) hP hD hS
      · rw [if_neg c6] at hf
        refine lv_aload_n hx hb dX11_hay_36 rfl (lv_at hl 0 rfl) ?_
        refine gf_RX11_102 C hP 0 rfl rfl dX11_hay_37 ?_
        refine lv_iload hx hb dX11_hay_40 (lv_at hl 3 rfl) ?_
        obtain ⟨g7, hf⟩ := gd_some hf
        refine va_iald hx hb C.2.2.2.2.2.1 hP 4 0 rfl rfl (vin_in g7) dX11_hay_42 ?_
        refine lv_aload_n hx hb dX11_hay_43 rfl (lv_at hl 0 rfl) ?_
        refine gf_RX11_19 C hP 0 rfl rfl dX11_hay_44 ?_
        refine gf_RX11_160 C hP 1 rfl rfl dX11_hay_47 ?_
        refine lv_iload hx hb dX11_hay_50 (lv_at hl 3 rfl) ?_
        obtain ⟨g8, hf⟩ := gd_some hf
        refine va_iald hx hb C.2.2.2.2.2.1 hP 6 0 rfl rfl (vin_in g8) dX11_hay_52 ?_
        refine lv_icmp_lt (tgt := 66) hx hb dX11_hay_53 (by decide) (fun c9 => ?_) (fun c9 => ?_)
        · rw [if_pos c9] at hf
          refine lv_iload_n hx hb dX11_hay_66 rfl (lv_at hl 2 rfl) ?_
          refine lv_aload_n hx hb dX11_hay_67 rfl (lv_at hl 0 rfl) ?_
          refine gf_RX11_19 C hP 0 rfl rfl dX11_hay_68 ?_
          refine gf_RX11_160 C hP 1 rfl rfl dX11_hay_71 ?_
          refine lv_iload hx hb dX11_hay_74 (lv_at hl 3 rfl) ?_
          obtain ⟨g10, hf⟩ := gd_some hf
          refine va_iald hx hb C.2.2.2.2.2.1 hP 6 0 rfl rfl (vin_in g10) dX11_hay_76 ?_
          refine lv_aload_n hx hb dX11_hay_77 rfl (lv_at hl 0 rfl) ?_
          refine gf_RX11_102 C hP 0 rfl rfl dX11_hay_78 ?_
          refine lv_iload hx hb dX11_hay_81 (lv_at hl 3 rfl) ?_
          obtain ⟨g11, hf⟩ := gd_some hf
          refine va_iald hx hb C.2.2.2.2.2.1 hP 4 0 rfl rfl (vin_in g11) dX11_hay_83 ?_
          refine lv_isub hx hb dX11_hay_84 ?_
          refine lv_iadd hx hb dX11_hay_85 ?_
          refine lv_istore_n (lv' := [(3, .int ((v3 + ((((a_town_hay (v4 : Int32).toNatClampNeg)) - ((a_tally (v4 : Int32).toNatClampNeg))))))), (0, .ref q0), (2, .int v2), (4, .int v4)]) hx hb dX11_hay_86 rfl hl (by decide) rfl (fun ls hl => ?_)
          refine lv_iinc (v := (v4 + 1)) (lv' := [(4, .int ((v4 + 1))), (3, .int ((v3 + ((((a_town_hay (v4 : Int32).toNatClampNeg)) - ((a_tally (v4 : Int32).toNatClampNeg))))))), (0, .ref q0), (2, .int v2)]) hx hb dX11_hay_87 hl (k := 3) rfl rfl (by decide) rfl (fun ls hl => ?_)
          refine lv_goto (tgt := 24) hx hb dX11_hay_90 (by decide) ?_
          exact ih v2 ((v3 + ((((a_town_hay (v4 : Int32).toNatClampNeg)) - ((a_tally (v4 : Int32).toNatClampNeg)))))) ((v4 + 1)) _ hf hE _ _ _ (lv_sub hl [2, 3, 1, 0] rfl) hP hD hS
        · rw [if_neg c9] at hf
          refine lv_iload_n hx hb dX11_hay_56 rfl (lv_at hl 1 rfl) ?_
          refine lv_iconst (v := 1) hx hb dX11_hay_57 (by decide) ?_
          refine lv_iload hx hb dX11_hay_58 (lv_at hl 3 rfl) ?_
          refine lv_ishl hx hb dX11_hay_60 ?_
          refine lv_ior hx hb dX11_hay_61 ?_
          refine lv_istore_n (lv' := [(2, .int ((v2 ||| ((1 <<< (v4 &&& 31)))))), (0, .ref q0), (3, .int v3), (4, .int v4)]) hx hb dX11_hay_62 rfl hl (by decide) rfl (fun ls hl => ?_)
          refine lv_goto (tgt := 87) hx hb dX11_hay_63 (by decide) ?_
          refine lv_iinc (v := (v4 + 1)) (lv' := [(4, .int ((v4 + 1))), (2, .int ((v2 ||| ((1 <<< (v4 &&& 31)))))), (0, .ref q0), (3, .int v3)]) hx hb dX11_hay_87 hl (k := 3) rfl rfl (by decide) rfl (fun ls hl => ?_)
          refine lv_goto (tgt := 24) hx hb dX11_hay_90 (by decide) ?_
          exact ih ((v2 ||| ((1 <<< (v4 &&& 31))))) v3 ((v4 + 1)) _ hf hE _ _ _ (lv_sub hl [2, 1, 3, 0] rfl) hP hD hS
  intro H locs ls hl hP hD hS
  have hl : lv_has ls 5 [(0, .ref q0), (1, .int p1)] := hl
  unfold fX11_hay at hf
  refine lv_iload_n hx hb dX11_hay_0 rfl (lv_at hl 1 rfl) ?_
  refine lv_iconst (v := 0) hx hb dX11_hay_1 (by decide) ?_
  refine lv_bipush (v := 60) hx hb dX11_hay_2 (by decide) ?_
  obtain ⟨o1, hg2, hf⟩ := bd_some hf
  refine k_SI2 (As := [.int p1, .int 0, .int 60]) C K_RX11_128 (Nat.le_of_ble_eq_true rfl) (Nat.le_of_ble_eq_true rfl) (kX11_isWithin l E p1 0 60 o1 hg2) [] rfl rfl rfl  hP hD hS hA hl.1 (Nat.le_of_ble_eq_true rfl) rfl dX11_hay_4 (ws2 := (WX11_hay E q0 q0_text q0_town q0_weather q0_rule q0_acts q0_real q0_trial q0_round q0_nights q0_before q0_history q0_kept q0_keptHouses q0_shortest q0_tracks q0_tally q0_told q0_town_hold q0_town_below q0_town_hay q0_real_state q0_real_owedBy q0_real_state_snow q0_real_state_path q0_real_state_debt i_toldCount i_town_houses i_real_owed i_real_slides i_real_struck i_real_slid i_real_state_now a_tally a_real_state_debt a_town_hay a_told)) 8 [0, 1, 2, 3, 4, 5, 6, 7] rfl rfl rfl rfl (by decide +kernel) (fun H locs hP hD hS => ?_)
  refine lv_if_ne (tgt := 12) hx hb dX11_hay_7 (by decide) (fun c3 => ?_) (fun c3 => ?_)
  · rw [if_neg c3] at hf
    refine lv_iconst (v := 0) hx hb dX11_hay_12 (by decide) ?_
    refine lv_istore_n (lv' := [(2, .int 0), (0, .ref q0), (1, .int p1)]) hx hb dX11_hay_13 rfl hl (by decide) rfl (fun ls hl => ?_)
    refine lv_iconst (v := 0) hx hb dX11_hay_14 (by decide) ?_
    refine lv_istore_n (lv' := [(3, .int 0), (2, .int 0), (0, .ref q0), (1, .int p1)]) hx hb dX11_hay_15 rfl hl (by decide) rfl (fun ls hl => ?_)
    refine lv_aload_n hx hb dX11_hay_16 rfl (lv_at hl 2 rfl) ?_
    refine lv_iload_n hx hb dX11_hay_17 rfl (lv_at hl 3 rfl) ?_
    obtain ⟨o4, hg5, hf⟩ := bd_some hf
    refine k_VV2 (As := [.int p1]) C K_RX11_324 (Nat.le_of_ble_eq_true rfl) (Nat.le_of_ble_eq_true rfl) (kX11_workThrough l E q0 q0_text q0_town q0_weather q0_rule q0_acts q0_real q0_trial q0_round q0_nights q0_before q0_history q0_kept q0_keptHouses q0_shortest q0_tracks q0_tally q0_told q0_town_hold q0_town_below q0_town_hay q0_real_state q0_real_owedBy q0_real_state_snow q0_real_state_path q0_real_state_debt i_toldCount a_tally i_town_houses i_real_owed i_real_slides i_real_struck i_real_slid i_real_state_now a_real_state_debt p1 o4 hg5) [0, 4, 1, 2, 3, 5] rfl rfl rfl (ci := 11) rfl rfl (q0 := 0) rfl hP hD hS hA hl.1 (Nat.le_of_ble_eq_true rfl) rfl dX11_hay_18 (ws2 := (WX11_hay E q0 q0_text q0_town q0_weather q0_rule q0_acts q0_real q0_trial q0_round q0_nights q0_before q0_history q0_kept q0_keptHouses q0_shortest q0_tracks q0_tally q0_told q0_town_hold q0_town_below q0_town_hay q0_real_state q0_real_owedBy q0_real_state_snow q0_real_state_path q0_real_state_debt i_toldCount i_town_houses i_real_owed i_real_slides i_real_struck i_real_slid i_real_state_now o4 a_real_state_debt a_town_hay a_told)) 8 [6, 7] rfl rfl rfl rfl (by decide +kernel) (fun H locs hP hD hS => ?_)
    refine lv_iconst (v := 0) hx hb dX11_hay_21 (by decide) ?_
    refine lv_istore (lv' := [(4, .int 0), (3, .int 0), (2, .int 0), (0, .ref q0), (1, .int p1)]) hx hb dX11_hay_22 hl (by decide) rfl (fun ls hl => ?_)
    obtain ⟨o12, hg13, hf⟩ := bd_some hf
    refine L24 i_toldCount o4 a_told FU 0 0 0 o12 hg13 ?_ _ _ _ (lv_sub hl [3, 2, 1, 0] rfl) hP hD hS
    intro H locs ls hl hP hD hS
    refine lv_aload_n hx hb dX11_hay_93 rfl (lv_at hl 0 rfl) ?_
    refine lv_iload_n hx hb dX11_hay_94 rfl (lv_at hl 2 rfl) ?_
    obtain ⟨o14, hg15, hf⟩ := bd_some hf
    refine k_VV2 (As := [.int o12.2]) C K_RX11_244 (Nat.le_of_ble_eq_true rfl) (Nat.le_of_ble_eq_true rfl) (kX11_tell l E q0 q0_text q0_town q0_weather q0_rule q0_acts q0_real q0_trial q0_round q0_nights q0_before q0_history q0_kept q0_keptHouses q0_shortest q0_tracks q0_tally q0_told i_toldCount a_told o12.2 o14 hg15) [0, 7] rfl rfl rfl (ci := 11) rfl rfl (q0 := 0) rfl hP hD hS hA hl.1 (Nat.le_of_ble_eq_true rfl) rfl dX11_hay_95 (ws2 := (WX11_hay E q0 q0_text q0_town q0_weather q0_rule q0_acts q0_real q0_trial q0_round q0_nights q0_before q0_history q0_kept q0_keptHouses q0_shortest q0_tracks q0_tally q0_told q0_town_hold q0_town_below q0_town_hay q0_real_state q0_real_owedBy q0_real_state_snow q0_real_state_path q0_real_state_debt o14.1 i_town_houses i_real_owed i_real_slides i_real_struck i_real_slid i_real_state_now o4 a_real_state_debt a_town_hay o14.2)) 8 [1, 2, 3, 4, 5, 6] rfl rfl rfl rfl (by decide +kernel) (fun H locs hP hD hS => ?_)
    refine lv_iload_n hx hb dX11_hay_98 rfl (lv_at hl 1 rfl) ?_
    have hj0 := Option.some.inj hf
    subst hj0
    exact hret _ _ _ _ dX11_hay_99 rfl hP hD hS
  · rw [if_pos c3] at hf
    refine lv_iconst (v := (-1)) hx hb dX11_hay_10 (by decide) ?_
    have hj0 := Option.some.inj hf
    subst hj0
    exact hret _ _ _ _ dX11_hay_11 rfl hP hD hS
theorem dX11_works_0 : decode cX11_works 0 = .ok (.aload_n 0, 1) := by decide +kernel
theorem dX11_works_1 : decode cX11_works 1 = .ok (.getfield 19, 3) := by decide +kernel
theorem dX11_works_4 : decode cX11_works 4 = .ok (.iload_n 1, 1) := by decide +kernel
theorem dX11_works_5 : decode cX11_works 5 = .ok (.invokevirtual 139, 3) := by decide +kernel
theorem dX11_works_8 : decode cX11_works 8 = .ok (.ifCond .eq 13, 3) := by decide +kernel
theorem dX11_works_11 : decode cX11_works 11 = .ok (.iload_n 2, 1) := by decide +kernel
theorem dX11_works_12 : decode cX11_works 12 = .ok (.iconst 1, 1) := by decide +kernel
theorem dX11_works_13 : decode cX11_works 13 = .ok (.bipush 60, 2) := by decide +kernel
theorem dX11_works_15 : decode cX11_works 15 = .ok (.invokestatic 128, 3) := by decide +kernel
theorem dX11_works_18 : decode cX11_works 18 = .ok (.ifCond .ne 5, 3) := by decide +kernel
theorem dX11_works_21 : decode cX11_works 21 = .ok (.iconst (-1), 1) := by decide +kernel
theorem dX11_works_22 : decode cX11_works 22 = .ok (.ireturn, 1) := by decide +kernel
theorem dX11_works_23 : decode cX11_works 23 = .ok (.iconst 0, 1) := by decide +kernel
theorem dX11_works_24 : decode cX11_works 24 = .ok (.istore_n 3, 1) := by decide +kernel
theorem dX11_works_25 : decode cX11_works 25 = .ok (.iconst 0, 1) := by decide +kernel
theorem dX11_works_26 : decode cX11_works 26 = .ok (.istore 4, 2) := by decide +kernel
theorem dX11_works_28 : decode cX11_works 28 = .ok (.iload 4, 2) := by decide +kernel
theorem dX11_works_30 : decode cX11_works 30 = .ok (.aload_n 0, 1) := by decide +kernel
theorem dX11_works_31 : decode cX11_works 31 = .ok (.getfield 19, 3) := by decide +kernel
theorem dX11_works_34 : decode cX11_works 34 = .ok (.getfield 179, 3) := by decide +kernel
theorem dX11_works_37 : decode cX11_works 37 = .ok (.if_icmp .ge 47, 3) := by decide +kernel
theorem dX11_works_40 : decode cX11_works 40 = .ok (.iload_n 3, 1) := by decide +kernel
theorem dX11_works_41 : decode cX11_works 41 = .ok (.aload_n 0, 1) := by decide +kernel
theorem dX11_works_42 : decode cX11_works 42 = .ok (.getfield 49, 3) := by decide +kernel
theorem dX11_works_45 : decode cX11_works 45 = .ok (.getfield 148, 3) := by decide +kernel
theorem dX11_works_48 : decode cX11_works 48 = .ok (.getfield 202, 3) := by decide +kernel
theorem dX11_works_51 : decode cX11_works 51 = .ok (.iload_n 1, 1) := by decide +kernel
theorem dX11_works_52 : decode cX11_works 52 = .ok (.bipush 7, 2) := by decide +kernel
theorem dX11_works_54 : decode cX11_works 54 = .ok (.imul, 1) := by decide +kernel
theorem dX11_works_55 : decode cX11_works 55 = .ok (.iload 4, 2) := by decide +kernel
theorem dX11_works_57 : decode cX11_works 57 = .ok (.iadd, 1) := by decide +kernel
theorem dX11_works_58 : decode cX11_works 58 = .ok (.iaload, 1) := by decide +kernel
theorem dX11_works_59 : decode cX11_works 59 = .ok (.iadd, 1) := by decide +kernel
theorem dX11_works_60 : decode cX11_works 60 = .ok (.istore_n 3, 1) := by decide +kernel
theorem dX11_works_61 : decode cX11_works 61 = .ok (.iload_n 2, 1) := by decide +kernel
theorem dX11_works_62 : decode cX11_works 62 = .ok (.iload_n 3, 1) := by decide +kernel
theorem dX11_works_63 : decode cX11_works 63 = .ok (.if_icmp .gt 15, 3) := by decide +kernel
theorem dX11_works_66 : decode cX11_works 66 = .ok (.aload_n 0, 1) := by decide +kernel
theorem dX11_works_67 : decode cX11_works 67 = .ok (.iload_n 3, 1) := by decide +kernel
theorem dX11_works_68 : decode cX11_works 68 = .ok (.iload_n 2, 1) := by decide +kernel
theorem dX11_works_69 : decode cX11_works 69 = .ok (.isub, 1) := by decide +kernel
theorem dX11_works_70 : decode cX11_works 70 = .ok (.iconst 1, 1) := by decide +kernel
theorem dX11_works_71 : decode cX11_works 71 = .ok (.iadd, 1) := by decide +kernel
theorem dX11_works_72 : decode cX11_works 72 = .ok (.invokevirtual 244, 3) := by decide +kernel
theorem dX11_works_75 : decode cX11_works 75 = .ok (.iload 4, 2) := by decide +kernel
theorem dX11_works_77 : decode cX11_works 77 = .ok (.ireturn, 1) := by decide +kernel
theorem dX11_works_78 : decode cX11_works 78 = .ok (.iinc 4 1, 3) := by decide +kernel
theorem dX11_works_81 : decode cX11_works 81 = .ok (.goto (-53), 3) := by decide +kernel
theorem dX11_works_84 : decode cX11_works 84 = .ok (.aload_n 0, 1) := by decide +kernel
theorem dX11_works_85 : decode cX11_works 85 = .ok (.bipush 60, 2) := by decide +kernel
theorem dX11_works_87 : decode cX11_works 87 = .ok (.invokevirtual 244, 3) := by decide +kernel
theorem dX11_works_90 : decode cX11_works 90 = .ok (.iload_n 1, 1) := by decide +kernel
theorem dX11_works_91 : decode cX11_works 91 = .ok (.ireturn, 1) := by decide +kernel
def WX11_works (E : ENV) (q0 : Nat) (q0_text : Nat) (q0_town : Nat) (q0_weather : Nat) (q0_rule : Nat) (q0_acts : Nat) (q0_real : Nat) (q0_trial : Nat) (q0_round : Nat) (q0_nights : Nat) (q0_before : Nat) (q0_history : Nat) (q0_kept : Nat) (q0_keptHouses : Nat) (q0_shortest : Nat) (q0_tracks : Nat) (q0_tally : Nat) (q0_told : Nat) (q0_town_hold : Nat) (q0_town_below : Nat) (q0_town_hay : Nat) (q0_real_state : Nat) (q0_real_owedBy : Nat) (q0_real_state_snow : Nat) (q0_real_state_path : Nat) (q0_real_state_debt : Nat) (i_toldCount : Int32) (i_town_houses : Int32) (i_real_owed : Int32) (i_real_slides : Int32) (i_real_struck : Int32) (i_real_slid : Int32) (i_real_state_now : Int32) (a_real_state_debt : Nat → Int32) (a_told : Nat → Int32) : va_W := [(q0, .inr (11, [.ref q0_text, .ref q0_town, .ref q0_weather, .ref q0_rule, .ref q0_acts, .ref q0_real, .ref q0_trial, .ref q0_round, .ref q0_nights, .ref q0_before, .ref q0_history, .ref q0_kept, .ref q0_keptHouses, .ref q0_shortest, .ref q0_tracks, .ref q0_tally, .ref q0_told, .int i_toldCount])), (q0_town, .inr (7, [.ref q0_town_hold, .ref q0_town_below, .ref q0_town_hay, .int i_town_houses])), (q0_real, .inr (9, [.ref q0_town, .ref q0_weather, .ref q0_rule, .ref q0_real_state, .ref q0_real_owedBy, .int i_real_owed, .int i_real_slides, .int i_real_struck, .int i_real_slid])), (q0_real_state, .inr (5, [.ref q0_real_state_snow, .ref q0_real_state_path, .ref q0_real_state_debt, .int i_real_state_now])), (q0_real_state_debt, .inl (E.2.1, 49, .inl a_real_state_debt)), (q0_told, .inl (E.2.1, 8, .inl a_told))]
set_option maxHeartbeats 4000000 in
set_option maxRecDepth 20000 in
theorem kX11_works (l : Launch) (E : ENV) (q0 : Nat) (q0_text : Nat) (q0_town : Nat) (q0_weather : Nat) (q0_rule : Nat) (q0_acts : Nat) (q0_real : Nat) (q0_trial : Nat) (q0_round : Nat) (q0_nights : Nat) (q0_before : Nat) (q0_history : Nat) (q0_kept : Nat) (q0_keptHouses : Nat) (q0_shortest : Nat) (q0_tracks : Nat) (q0_tally : Nat) (q0_told : Nat) (q0_town_hold : Nat) (q0_town_below : Nat) (q0_town_hay : Nat) (q0_real_state : Nat) (q0_real_owedBy : Nat) (q0_real_state_snow : Nat) (q0_real_state_path : Nat) (q0_real_state_debt : Nat) (i_toldCount : Int32) (i_town_houses : Int32) (i_real_owed : Int32) (i_real_slides : Int32) (i_real_struck : Int32) (i_real_slid : Int32) (i_real_state_now : Int32) (a_real_state_debt : Nat → Int32) (a_told : Nat → Int32) (p1 : Int32) (p2 : Int32) (o9 : Int32 × Int32 × (Nat → Int32)) (hf : fX11_works i_toldCount i_town_houses a_real_state_debt a_told p1 p2 = some o9) : CI l E yX11_works cX11_works 5 (some .int) 2 [.ref q0, .int p1, .int p2] (WX11_works E q0 q0_text q0_town q0_weather q0_rule q0_acts q0_real q0_trial q0_round q0_nights q0_before q0_history q0_kept q0_keptHouses q0_shortest q0_tracks q0_tally q0_told q0_town_hold q0_town_below q0_town_hay q0_real_state q0_real_owedBy q0_real_state_snow q0_real_state_path q0_real_state_debt i_toldCount i_town_houses i_real_owed i_real_slides i_real_struck i_real_slid i_real_state_now a_real_state_debt a_told) (WX11_works E q0 q0_text q0_town q0_weather q0_rule q0_acts q0_real q0_trial q0_round q0_nights q0_before q0_history q0_kept q0_keptHouses q0_shortest q0_tracks q0_tally q0_told q0_town_hold q0_town_below q0_town_hay q0_real_state q0_real_owedBy q0_real_state_snow q0_real_state_path q0_real_state_debt o9.2.1 i_town_houses i_real_owed i_real_slides i_real_struck i_real_slid i_real_state_now a_real_state_debt o9.2.2) o9.1 := by
  refine begI (by decide +kernel) (Nat.le_of_ble_eq_true rfl) ?_
  intro p e s m args below meth c A Q C hA hret
  have hx := C.1
  have hb := C.2.1
  have L28 : ∀ (i_toldCount : Int32) (a_told : Nat → Int32), ∀ (n : Nat) (v3 : Int32) (v4 : Int32) (o : (Unit) ⊕ (Int32 × Int32 × (Nat → Int32))), fX11_works_L28 i_town_houses a_real_state_debt p1 p2 i_toldCount a_told n v3 v4 = some o → (∀ x, o = Sum.inl x → GO p l e 2 s m args below meth c Q E A 5 84 [] [(0, .ref q0), (1, .int p1)] (WX11_works E q0 q0_text q0_town q0_weather q0_rule q0_acts q0_real q0_trial q0_round q0_nights q0_before q0_history q0_kept q0_keptHouses q0_shortest q0_tracks q0_tally q0_told q0_town_hold q0_town_below q0_town_hay q0_real_state q0_real_owedBy q0_real_state_snow q0_real_state_path q0_real_state_debt i_toldCount i_town_houses i_real_owed i_real_slides i_real_struck i_real_slid i_real_state_now a_real_state_debt a_told)) → (∀ x, o = Sum.inr x → x = o9) → GO p l e 2 s m args below meth c Q E A 5 28 [] [(0, .ref q0), (1, .int p1), (2, .int p2), (3, .int v3), (4, .int v4)] (WX11_works E q0 q0_text q0_town q0_weather q0_rule q0_acts q0_real q0_trial q0_round q0_nights q0_before q0_history q0_kept q0_keptHouses q0_shortest q0_tracks q0_tally q0_told q0_town_hold q0_town_below q0_town_hay q0_real_state q0_real_owedBy q0_real_state_snow q0_real_state_path q0_real_state_debt i_toldCount i_town_houses i_real_owed i_real_slides i_real_struck i_real_slid i_real_state_now a_real_state_debt a_told) := by
    intro i_toldCount a_told
    intro n
    induction n with
    | zero =>
      intro v3 v4 o hf
      have hf : none = some o := hf
      cases hf
    | succ n ih =>
      intro v3 v4 o hf hE hR
      intro H locs ls hl hP hD hS
      rw [fX11_works_L28] at hf
      refine lv_iload hx hb dX11_works_28 (lv_at hl 4 rfl) ?_
      refine lv_aload_n hx hb dX11_works_30 rfl (lv_at hl 0 rfl) ?_
      refine gf_RX11_19 C hP 0 rfl rfl dX11_works_31 ?_
      refine gf_RX11_179 C hP 1 rfl rfl dX11_works_34 ?_
      refine lv_icmp_ge (tgt := 84) hx hb dX11_works_37 (by decide) (fun c7 => ?_) (fun c7 => ?_)
      · rw [if_pos c7] at hf
        have hf := Option.some.inj hf
        subst hf
        exact (hE _ rfl) _ _ _ (lv_sub hl [0, 1] rfl) hP hD hS
      · rw [if_neg c7] at hf
        refine lv_iload_n hx hb dX11_works_40 rfl (lv_at hl 3 rfl) ?_
        refine lv_aload_n hx hb dX11_works_41 rfl (lv_at hl 0 rfl) ?_
        refine gf_RX11_49 C hP 0 rfl rfl dX11_works_42 ?_
        refine gf_RX11_148 C hP 2 rfl rfl dX11_works_45 ?_
        refine gf_RX11_202 C hP 3 rfl rfl dX11_works_48 ?_
        refine lv_iload_n hx hb dX11_works_51 rfl (lv_at hl 1 rfl) ?_
        refine lv_bipush (v := 7) hx hb dX11_works_52 (by decide) ?_
        refine lv_imul hx hb dX11_works_54 ?_
        refine lv_iload hx hb dX11_works_55 (lv_at hl 4 rfl) ?_
        refine lv_iadd hx hb dX11_works_57 ?_
        obtain ⟨g8, hf⟩ := gd_some hf
        refine va_iald hx hb C.2.2.2.2.2.1 hP 4 0 rfl rfl (vin_in g8) dX11_works_58 ?_
        refine lv_iadd hx hb dX11_works_59 ?_
        refine lv_istore_n (lv' := [(3, .int ((v3 + ((a_real_state_debt ((((p1 * 7)) + v4) : Int32).toNatClampNeg))))), (0, .ref q0), (1, .int p1), (2, .int p2), (4, .int v4)]) hx hb dX11_works_60 rfl hl (by decide) rfl (fun ls hl => ?_)
        refine lv_iload_n hx hb dX11_works_61 rfl (lv_at hl 3 rfl) ?_
        refine lv_iload_n hx hb dX11_works_62 rfl (lv_at hl 0 rfl) ?_
        refine lv_icmp_gt (tgt := 78) hx hb dX11_works_63 (by decide) (fun c9 => ?_) (fun c9 => ?_)
        · rw [if_pos c9] at hf
          refine lv_iinc (v := (v4 + 1)) (lv' := [(4, .int ((v4 + 1))), (3, .int ((v3 + ((a_real_state_debt ((((p1 * 7)) + v4) : Int32).toNatClampNeg))))), (0, .ref q0), (1, .int p1), (2, .int p2)]) hx hb dX11_works_78 hl (k := 4) rfl rfl (by decide) rfl (fun ls hl => ?_)
          refine lv_goto (tgt := 28) hx hb dX11_works_81 (by decide) ?_
          exact ih ((v3 + ((a_real_state_debt ((((p1 * 7)) + v4) : Int32).toNatClampNeg)))) ((v4 + 1)) _ hf hE hR _ _ _ (lv_sub hl [2, 3, 4, 1, 0] rfl) hP hD hS
        · rw [if_neg c9] at hf
          refine lv_aload_n hx hb dX11_works_66 rfl (lv_at hl 1 rfl) ?_
          refine lv_iload_n hx hb dX11_works_67 rfl (lv_at hl 0 rfl) ?_
          refine lv_iload_n hx hb dX11_works_68 rfl (lv_at hl 3 rfl) ?_
          refine lv_isub hx hb dX11_works_69 ?_
          refine lv_iconst (v := 1) hx hb dX11_works_70 (by decide) ?_
          refine lv_iadd hx hb dX11_works_71 ?_
          obtain ⟨o10, hg11, hf⟩ := bd_some hf
          refine k_VV2 (As := [.int ((((((v3 + ((a_real_state_debt ((((p1 * 7)) + v4) : Int32).toNatClampNeg)))) - p2)) + 1))]) C K_RX11_244 (Nat.le_of_ble_eq_true rfl) (Nat.le_of_ble_eq_true rfl) (kX11_tell l E q0 q0_text q0_town q0_weather q0_rule q0_acts q0_real q0_trial q0_round q0_nights q0_before q0_history q0_kept q0_keptHouses q0_shortest q0_tracks q0_tally q0_told i_toldCount a_told ((((((v3 + ((a_real_state_debt ((((p1 * 7)) + v4) : Int32).toNatClampNeg)))) - p2)) + 1)) o10 hg11) [0, 5] rfl rfl rfl (ci := 11) rfl rfl (q0 := 0) rfl hP hD hS hA hl.1 (Nat.le_of_ble_eq_true rfl) rfl dX11_works_72 (ws2 := (WX11_works E q0 q0_text q0_town q0_weather q0_rule q0_acts q0_real q0_trial q0_round q0_nights q0_before q0_history q0_kept q0_keptHouses q0_shortest q0_tracks q0_tally q0_told q0_town_hold q0_town_below q0_town_hay q0_real_state q0_real_owedBy q0_real_state_snow q0_real_state_path q0_real_state_debt o10.1 i_town_houses i_real_owed i_real_slides i_real_struck i_real_slid i_real_state_now a_real_state_debt o10.2)) 6 [1, 2, 3, 4] rfl rfl rfl rfl (by decide +kernel) (fun H locs hP hD hS => ?_)
          refine lv_iload hx hb dX11_works_75 (lv_at hl 4 rfl) ?_
          have hf := Option.some.inj hf
          subst hf
          have hj0 := hR _ rfl
          subst hj0
          exact hret _ _ _ _ dX11_works_77 rfl hP hD hS
  intro H locs ls hl hP hD hS
  have hl : lv_has ls 5 [(0, .ref q0), (1, .int p1), (2, .int p2)] := hl
  unfold fX11_works at hf
  refine lv_aload_n hx hb dX11_works_0 rfl (lv_at hl 0 rfl) ?_
  refine gf_RX11_19 C hP 0 rfl rfl dX11_works_1 ?_
  refine lv_iload_n hx hb dX11_works_4 rfl (lv_at hl 1 rfl) ?_
  obtain ⟨o1, hg2, hf⟩ := bd_some hf
  refine k_VI2 (As := [.int p1]) C K_RX11_139 (Nat.le_of_ble_eq_true rfl) (Nat.le_of_ble_eq_true rfl) (kX7_has l E q0_town q0_town_hold q0_town_below q0_town_hay i_town_houses p1 o1 hg2) [1] rfl rfl rfl (ci := 7) rfl rfl (q0 := 0) rfl hP hD hS hA hl.1 (Nat.le_of_ble_eq_true rfl) rfl dX11_works_5 (ws2 := (WX11_works E q0 q0_text q0_town q0_weather q0_rule q0_acts q0_real q0_trial q0_round q0_nights q0_before q0_history q0_kept q0_keptHouses q0_shortest q0_tracks q0_tally q0_told q0_town_hold q0_town_below q0_town_hay q0_real_state q0_real_owedBy q0_real_state_snow q0_real_state_path q0_real_state_debt i_toldCount i_town_houses i_real_owed i_real_slides i_real_struck i_real_slid i_real_state_now a_real_state_debt a_told)) 6 [0, 2, 3, 4, 5] rfl rfl rfl rfl (by decide +kernel) (fun H locs hP hD hS => ?_)
  refine lv_if_eq (tgt := 21) hx hb dX11_works_8 (by decide) (fun c3 => ?_) (fun c3 => ?_)
  · rw [if_pos c3] at hf
    refine lv_iconst (v := (-1)) hx hb dX11_works_21 (by decide) ?_
    have hj0 := Option.some.inj hf
    subst hj0
    exact hret _ _ _ _ dX11_works_22 rfl hP hD hS
  · rw [if_neg c3] at hf
    refine lv_iload_n hx hb dX11_works_11 rfl (lv_at hl 2 rfl) ?_
    refine lv_iconst (v := 1) hx hb dX11_works_12 (by decide) ?_
    refine lv_bipush (v := 60) hx hb dX11_works_13 (by decide) ?_
    obtain ⟨o4, hg5, hf⟩ := bd_some hf
    refine k_SI2 (As := [.int p2, .int 1, .int 60]) C K_RX11_128 (Nat.le_of_ble_eq_true rfl) (Nat.le_of_ble_eq_true rfl) (kX11_isWithin l E p2 1 60 o4 hg5) [] rfl rfl rfl  hP hD hS hA hl.1 (Nat.le_of_ble_eq_true rfl) rfl dX11_works_15 (ws2 := (WX11_works E q0 q0_text q0_town q0_weather q0_rule q0_acts q0_real q0_trial q0_round q0_nights q0_before q0_history q0_kept q0_keptHouses q0_shortest q0_tracks q0_tally q0_told q0_town_hold q0_town_below q0_town_hay q0_real_state q0_real_owedBy q0_real_state_snow q0_real_state_path q0_real_state_debt i_toldCount i_town_houses i_real_owed i_real_slides i_real_struck i_real_slid i_real_state_now a_real_state_debt a_told)) 6 [0, 1, 2, 3, 4, 5] rfl rfl rfl rfl (by decide +kernel) (fun H locs hP hD hS => ?_)
    refine lv_if_ne (tgt := 23) hx hb dX11_works_18 (by decide) (fun c6 => ?_) (fun c6 => ?_)
    · rw [if_neg c6] at hf
      refine lv_iconst (v := 0) hx hb dX11_works_23 (by decide) ?_
      refine lv_istore_n (lv' := [(3, .int 0), (0, .ref q0), (1, .int p1), (2, .int p2)]) hx hb dX11_works_24 rfl hl (by decide) rfl (fun ls hl => ?_)
      refine lv_iconst (v := 0) hx hb dX11_works_25 (by decide) ?_
      refine lv_istore (lv' := [(4, .int 0), (3, .int 0), (0, .ref q0), (1, .int p1), (2, .int p2)]) hx hb dX11_works_26 hl (by decide) rfl (fun ls hl => ?_)
      obtain ⟨o12, hg13, hf⟩ := bd_some hf
      refine L28 i_toldCount a_told FU 0 0 o12 hg13 ?_ ?_ _ _ _ (lv_sub hl [2, 3, 4, 1, 0] rfl) hP hD hS
      · intro x14 hxx
        rw [hxx, Sum.elim_inl] at hf
        intro H locs ls hl hP hD hS
        refine lv_aload_n hx hb dX11_works_84 rfl (lv_at hl 0 rfl) ?_
        refine lv_bipush (v := 60) hx hb dX11_works_85 (by decide) ?_
        obtain ⟨o15, hg16, hf⟩ := bd_some hf
        refine k_VV2 (As := [.int 60]) C K_RX11_244 (Nat.le_of_ble_eq_true rfl) (Nat.le_of_ble_eq_true rfl) (kX11_tell l E q0 q0_text q0_town q0_weather q0_rule q0_acts q0_real q0_trial q0_round q0_nights q0_before q0_history q0_kept q0_keptHouses q0_shortest q0_tracks q0_tally q0_told i_toldCount a_told 60 o15 hg16) [0, 5] rfl rfl rfl (ci := 11) rfl rfl (q0 := 0) rfl hP hD hS hA hl.1 (Nat.le_of_ble_eq_true rfl) rfl dX11_works_87 (ws2 := (WX11_works E q0 q0_text q0_town q0_weather q0_rule q0_acts q0_real q0_trial q0_round q0_nights q0_before q0_history q0_kept q0_keptHouses q0_shortest q0_tracks q0_tally q0_told q0_town_hold q0_town_below q0_town_hay q0_real_state q0_real_owedBy q0_real_state_snow q0_real_state_path q0_real_state_debt o15.1 i_town_houses i_real_owed i_real_slides i_real_struck i_real_slid i_real_state_now a_real_state_debt o15.2)) 6 [1, 2, 3, 4] rfl rfl rfl rfl (by decide +kernel) (fun H locs hP hD hS => ?_)
        refine lv_iload_n hx hb dX11_works_90 rfl (lv_at hl 1 rfl) ?_
        have hj0 := Option.some.inj hf
        subst hj0
        exact hret _ _ _ _ dX11_works_91 rfl hP hD hS
      · intro x hxx
        rw [hxx, Sum.elim_inr] at hf
        exact Option.some.inj hf
    · rw [if_pos c6] at hf
      refine lv_iconst (v := (-1)) hx hb dX11_works_21 (by decide) ?_
      have hj0 := Option.some.inj hf
      subst hj0
      exact hret _ _ _ _ dX11_works_22 rfl hP hD hS
theorem dX11_isAllHayIn_0 : decode cX11_isAllHayIn 0 = .ok (.iconst 0, 1) := by decide +kernel
theorem dX11_isAllHayIn_1 : decode cX11_isAllHayIn 1 = .ok (.istore_n 1, 1) := by decide +kernel
theorem dX11_isAllHayIn_2 : decode cX11_isAllHayIn 2 = .ok (.iload_n 1, 1) := by decide +kernel
theorem dX11_isAllHayIn_3 : decode cX11_isAllHayIn 3 = .ok (.aload_n 0, 1) := by decide +kernel
theorem dX11_isAllHayIn_4 : decode cX11_isAllHayIn 4 = .ok (.getfield 19, 3) := by decide +kernel
theorem dX11_isAllHayIn_7 : decode cX11_isAllHayIn 7 = .ok (.getfield 179, 3) := by decide +kernel
theorem dX11_isAllHayIn_10 : decode cX11_isAllHayIn 10 = .ok (.if_icmp .ge 29, 3) := by decide +kernel
theorem dX11_isAllHayIn_13 : decode cX11_isAllHayIn 13 = .ok (.aload_n 0, 1) := by decide +kernel
theorem dX11_isAllHayIn_14 : decode cX11_isAllHayIn 14 = .ok (.getfield 102, 3) := by decide +kernel
theorem dX11_isAllHayIn_17 : decode cX11_isAllHayIn 17 = .ok (.iload_n 1, 1) := by decide +kernel
theorem dX11_isAllHayIn_18 : decode cX11_isAllHayIn 18 = .ok (.iaload, 1) := by decide +kernel
theorem dX11_isAllHayIn_19 : decode cX11_isAllHayIn 19 = .ok (.aload_n 0, 1) := by decide +kernel
theorem dX11_isAllHayIn_20 : decode cX11_isAllHayIn 20 = .ok (.getfield 19, 3) := by decide +kernel
theorem dX11_isAllHayIn_23 : decode cX11_isAllHayIn 23 = .ok (.getfield 160, 3) := by decide +kernel
theorem dX11_isAllHayIn_26 : decode cX11_isAllHayIn 26 = .ok (.iload_n 1, 1) := by decide +kernel
theorem dX11_isAllHayIn_27 : decode cX11_isAllHayIn 27 = .ok (.iaload, 1) := by decide +kernel
theorem dX11_isAllHayIn_28 : decode cX11_isAllHayIn 28 = .ok (.if_icmp .ge 5, 3) := by decide +kernel
theorem dX11_isAllHayIn_31 : decode cX11_isAllHayIn 31 = .ok (.iconst 0, 1) := by decide +kernel
theorem dX11_isAllHayIn_32 : decode cX11_isAllHayIn 32 = .ok (.ireturn, 1) := by decide +kernel
theorem dX11_isAllHayIn_33 : decode cX11_isAllHayIn 33 = .ok (.iinc 1 1, 3) := by decide +kernel
theorem dX11_isAllHayIn_36 : decode cX11_isAllHayIn 36 = .ok (.goto (-34), 3) := by decide +kernel
theorem dX11_isAllHayIn_39 : decode cX11_isAllHayIn 39 = .ok (.iconst 1, 1) := by decide +kernel
theorem dX11_isAllHayIn_40 : decode cX11_isAllHayIn 40 = .ok (.ireturn, 1) := by decide +kernel
def WX11_isAllHayIn (E : ENV) (q0 : Nat) (q0_text : Nat) (q0_town : Nat) (q0_weather : Nat) (q0_rule : Nat) (q0_acts : Nat) (q0_real : Nat) (q0_trial : Nat) (q0_round : Nat) (q0_nights : Nat) (q0_before : Nat) (q0_history : Nat) (q0_kept : Nat) (q0_keptHouses : Nat) (q0_shortest : Nat) (q0_tracks : Nat) (q0_tally : Nat) (q0_told : Nat) (q0_town_hold : Nat) (q0_town_below : Nat) (q0_town_hay : Nat) (i_toldCount : Int32) (i_town_houses : Int32) (a_tally : Nat → Int32) (a_town_hay : Nat → Int32) : va_W := [(q0, .inr (11, [.ref q0_text, .ref q0_town, .ref q0_weather, .ref q0_rule, .ref q0_acts, .ref q0_real, .ref q0_trial, .ref q0_round, .ref q0_nights, .ref q0_before, .ref q0_history, .ref q0_kept, .ref q0_keptHouses, .ref q0_shortest, .ref q0_tracks, .ref q0_tally, .ref q0_told, .int i_toldCount])), (q0_town, .inr (7, [.ref q0_town_hold, .ref q0_town_below, .ref q0_town_hay, .int i_town_houses])), (q0_tally, .inl (E.2.1, 7, .inl a_tally)), (q0_town_hay, .inl (E.2.1, 7, .inl a_town_hay))]
set_option maxHeartbeats 4000000 in
set_option maxRecDepth 20000 in
theorem kX11_isAllHayIn (l : Launch) (E : ENV) (q0 : Nat) (q0_text : Nat) (q0_town : Nat) (q0_weather : Nat) (q0_rule : Nat) (q0_acts : Nat) (q0_real : Nat) (q0_trial : Nat) (q0_round : Nat) (q0_nights : Nat) (q0_before : Nat) (q0_history : Nat) (q0_kept : Nat) (q0_keptHouses : Nat) (q0_shortest : Nat) (q0_tracks : Nat) (q0_tally : Nat) (q0_told : Nat) (q0_town_hold : Nat) (q0_town_below : Nat) (q0_town_hay : Nat) (i_toldCount : Int32) (i_town_houses : Int32) (a_tally : Nat → Int32) (a_town_hay : Nat → Int32) (o9 : Int32) (hf : fX11_isAllHayIn i_town_houses a_tally a_town_hay = some o9) : CI l E yX11_isAllHayIn cX11_isAllHayIn 2 (some .boolean) 0 [.ref q0] (WX11_isAllHayIn E q0 q0_text q0_town q0_weather q0_rule q0_acts q0_real q0_trial q0_round q0_nights q0_before q0_history q0_kept q0_keptHouses q0_shortest q0_tracks q0_tally q0_told q0_town_hold q0_town_below q0_town_hay i_toldCount i_town_houses a_tally a_town_hay) (WX11_isAllHayIn E q0 q0_text q0_town q0_weather q0_rule q0_acts q0_real q0_trial q0_round q0_nights q0_before q0_history q0_kept q0_keptHouses q0_shortest q0_tracks q0_tally q0_told q0_town_hold q0_town_below q0_town_hay i_toldCount i_town_houses a_tally a_town_hay) o9 := by
  refine begI (by decide +kernel) (Nat.le_of_ble_eq_true rfl) ?_
  intro p e s m args below meth c A Q C hA hret
  have hx := C.1
  have hb := C.2.1
  have L2 : ∀ (n : Nat) (v1 : Int32) (o : (Unit) ⊕ (Int32)), fX11_isAllHayIn_L2 i_town_houses a_tally a_town_hay n v1 = some o → (∀ x, o = Sum.inl x → GO p l e 0 s m args below meth c Q E A 2 39 [] [] (WX11_isAllHayIn E q0 q0_text q0_town q0_weather q0_rule q0_acts q0_real q0_trial q0_round q0_nights q0_before q0_history q0_kept q0_keptHouses q0_shortest q0_tracks q0_tally q0_told q0_town_hold q0_town_below q0_town_hay i_toldCount i_town_houses a_tally a_town_hay)) → (∀ x, o = Sum.inr x → x = o9) → GO p l e 0 s m args below meth c Q E A 2 2 [] [(0, .ref q0), (1, .int v1)] (WX11_isAllHayIn E q0 q0_text q0_town q0_weather q0_rule q0_acts q0_real q0_trial q0_round q0_nights q0_before q0_history q0_kept q0_keptHouses q0_shortest q0_tracks q0_tally q0_told q0_town_hold q0_town_below q0_town_hay i_toldCount i_town_houses a_tally a_town_hay) := by
    intro n
    induction n with
    | zero =>
      intro v1 o hf
      have hf : none = some o := hf
      cases hf
    | succ n ih =>
      intro v1 o hf hE hR
      intro H locs ls hl hP hD hS
      rw [fX11_isAllHayIn_L2] at hf
      refine lv_iload_n hx hb dX11_isAllHayIn_2 rfl (lv_at hl 1 rfl) ?_
      refine lv_aload_n hx hb dX11_isAllHayIn_3 rfl (lv_at hl 0 rfl) ?_
      refine gf_RX11_19 C hP 0 rfl rfl dX11_isAllHayIn_4 ?_
      refine gf_RX11_179 C hP 1 rfl rfl dX11_isAllHayIn_7 ?_
      refine lv_icmp_ge (tgt := 39) hx hb dX11_isAllHayIn_10 (by decide) (fun c1 => ?_) (fun c1 => ?_)
      · rw [if_pos c1] at hf
        have hf := Option.some.inj hf
        subst hf
        exact (hE _ rfl) _ _ _ (lv_sub hl [] rfl) hP hD hS
      · rw [if_neg c1] at hf
        refine lv_aload_n hx hb dX11_isAllHayIn_13 rfl (lv_at hl 0 rfl) ?_
        refine gf_RX11_102 C hP 0 rfl rfl dX11_isAllHayIn_14 ?_
        refine lv_iload_n hx hb dX11_isAllHayIn_17 rfl (lv_at hl 1 rfl) ?_
        obtain ⟨g2, hf⟩ := gd_some hf
        refine va_iald hx hb C.2.2.2.2.2.1 hP 2 0 rfl rfl (vin_in g2) dX11_isAllHayIn_18 ?_
        refine lv_aload_n hx hb dX11_isAllHayIn_19 rfl (lv_at hl 0 rfl) ?_
        refine gf_RX11_19 C hP 0 rfl rfl dX11_isAllHayIn_20 ?_
        refine gf_RX11_160 C hP 1 rfl rfl dX11_isAllHayIn_23 ?_
        refine lv_iload_n hx hb dX11_isAllHayIn_26 rfl (lv_at hl 1 rfl) ?_
        obtain ⟨g3, hf⟩ := gd_some hf
        refine va_iald hx hb C.2.2.2.2.2.1 hP 3 0 rfl rfl (vin_in g3) dX11_isAllHayIn_27 ?_
        refine lv_icmp_ge (tgt := 33) hx hb dX11_isAllHayIn_28 (by decide) (fun c4 => ?_) (fun c4 => ?_)
        · rw [if_pos c4] at hf
          refine lv_iinc (v := (v1 + 1)) (lv' := [(1, .int ((v1 + 1))), (0, .ref q0)]) hx hb dX11_isAllHayIn_33 hl (k := 1) rfl rfl (by decide) rfl (fun ls hl => ?_)
          refine lv_goto (tgt := 2) hx hb dX11_isAllHayIn_36 (by decide) ?_
          exact ih ((v1 + 1)) _ hf hE hR _ _ _ (lv_sub hl [1, 0] rfl) hP hD hS
        · rw [if_neg c4] at hf
          refine lv_iconst (v := 0) hx hb dX11_isAllHayIn_31 (by decide) ?_
          have hf := Option.some.inj hf
          subst hf
          have hj0 := hR _ rfl
          subst hj0
          exact hret _ _ _ _ dX11_isAllHayIn_32 (show narrow .boolean (.int (0 : Int32)) = .int (0 : Int32) from rfl) hP hD hS
  intro H locs ls hl hP hD hS
  have hl : lv_has ls 2 [(0, .ref q0)] := hl
  unfold fX11_isAllHayIn at hf
  refine lv_iconst (v := 0) hx hb dX11_isAllHayIn_0 (by decide) ?_
  refine lv_istore_n (lv' := [(1, .int 0), (0, .ref q0)]) hx hb dX11_isAllHayIn_1 rfl hl (by decide) rfl (fun ls hl => ?_)
  obtain ⟨o5, hg6, hf⟩ := bd_some hf
  refine L2 FU 0 o5 hg6 ?_ ?_ _ _ _ (lv_sub hl [1, 0] rfl) hP hD hS
  · intro x7 hxx
    rw [hxx, Sum.elim_inl] at hf
    intro H locs ls hl hP hD hS
    refine lv_iconst (v := 1) hx hb dX11_isAllHayIn_39 (by decide) ?_
    have hj0 := Option.some.inj hf
    subst hj0
    exact hret _ _ _ _ dX11_isAllHayIn_40 (show narrow .boolean (.int (1 : Int32)) = .int (1 : Int32) from rfl) hP hD hS
  · intro x hxx
    rw [hxx, Sum.elim_inr] at hf
    exact Option.some.inj hf
theorem K_RX11_327 : KV RX11 327 yX11_isAllHayIn cX11_isAllHayIn 2 (some .boolean) 0 := ⟨Tg_mem 1030 (by decide +kernel) (by decide +kernel), Tg_mem 90 (by decide +kernel) (by decide +kernel), Tg_mem 1027 (by decide +kernel) (by decide +kernel), Tg_mem 1029 (by decide +kernel) (by decide +kernel), Tg_mem 30 (by decide +kernel) (by decide +kernel), by decide +kernel⟩
theorem dX11_summer_0 : decode cX11_summer 0 = .ok (.iconst 0, 1) := by decide +kernel
theorem dX11_summer_1 : decode cX11_summer 1 = .ok (.istore_n 1, 1) := by decide +kernel
theorem dX11_summer_2 : decode cX11_summer 2 = .ok (.iload_n 1, 1) := by decide +kernel
theorem dX11_summer_3 : decode cX11_summer 3 = .ok (.bipush 60, 2) := by decide +kernel
theorem dX11_summer_5 : decode cX11_summer 5 = .ok (.if_icmp .gt 23, 3) := by decide +kernel
theorem dX11_summer_8 : decode cX11_summer 8 = .ok (.aload_n 0, 1) := by decide +kernel
theorem dX11_summer_9 : decode cX11_summer 9 = .ok (.iload_n 1, 1) := by decide +kernel
theorem dX11_summer_10 : decode cX11_summer 10 = .ok (.invokevirtual 324, 3) := by decide +kernel
theorem dX11_summer_13 : decode cX11_summer 13 = .ok (.aload_n 0, 1) := by decide +kernel
theorem dX11_summer_14 : decode cX11_summer 14 = .ok (.invokevirtual 327, 3) := by decide +kernel
theorem dX11_summer_17 : decode cX11_summer 17 = .ok (.ifCond .eq 5, 3) := by decide +kernel
theorem dX11_summer_20 : decode cX11_summer 20 = .ok (.iload_n 1, 1) := by decide +kernel
theorem dX11_summer_21 : decode cX11_summer 21 = .ok (.ireturn, 1) := by decide +kernel
theorem dX11_summer_22 : decode cX11_summer 22 = .ok (.iinc 1 1, 3) := by decide +kernel
theorem dX11_summer_25 : decode cX11_summer 25 = .ok (.goto (-23), 3) := by decide +kernel
theorem dX11_summer_28 : decode cX11_summer 28 = .ok (.bipush (-2), 2) := by decide +kernel
theorem dX11_summer_30 : decode cX11_summer 30 = .ok (.ireturn, 1) := by decide +kernel
def WX11_summer (E : ENV) (q0 : Nat) (q0_text : Nat) (q0_town : Nat) (q0_weather : Nat) (q0_rule : Nat) (q0_acts : Nat) (q0_real : Nat) (q0_trial : Nat) (q0_round : Nat) (q0_nights : Nat) (q0_before : Nat) (q0_history : Nat) (q0_kept : Nat) (q0_keptHouses : Nat) (q0_shortest : Nat) (q0_tracks : Nat) (q0_tally : Nat) (q0_told : Nat) (q0_town_hold : Nat) (q0_town_below : Nat) (q0_town_hay : Nat) (q0_real_state : Nat) (q0_real_owedBy : Nat) (q0_real_state_snow : Nat) (q0_real_state_path : Nat) (q0_real_state_debt : Nat) (i_toldCount : Int32) (i_town_houses : Int32) (i_real_owed : Int32) (i_real_slides : Int32) (i_real_struck : Int32) (i_real_slid : Int32) (i_real_state_now : Int32) (a_tally : Nat → Int32) (a_real_state_debt : Nat → Int32) (a_town_hay : Nat → Int32) : va_W := [(q0, .inr (11, [.ref q0_text, .ref q0_town, .ref q0_weather, .ref q0_rule, .ref q0_acts, .ref q0_real, .ref q0_trial, .ref q0_round, .ref q0_nights, .ref q0_before, .ref q0_history, .ref q0_kept, .ref q0_keptHouses, .ref q0_shortest, .ref q0_tracks, .ref q0_tally, .ref q0_told, .int i_toldCount])), (q0_town, .inr (7, [.ref q0_town_hold, .ref q0_town_below, .ref q0_town_hay, .int i_town_houses])), (q0_real, .inr (9, [.ref q0_town, .ref q0_weather, .ref q0_rule, .ref q0_real_state, .ref q0_real_owedBy, .int i_real_owed, .int i_real_slides, .int i_real_struck, .int i_real_slid])), (q0_real_state, .inr (5, [.ref q0_real_state_snow, .ref q0_real_state_path, .ref q0_real_state_debt, .int i_real_state_now])), (q0_tally, .inl (E.2.1, 7, .inl a_tally)), (q0_real_state_debt, .inl (E.2.1, 49, .inl a_real_state_debt)), (q0_town_hay, .inl (E.2.1, 7, .inl a_town_hay))]
set_option maxHeartbeats 4000000 in
set_option maxRecDepth 20000 in
theorem kX11_summer (l : Launch) (E : ENV) (q0 : Nat) (q0_text : Nat) (q0_town : Nat) (q0_weather : Nat) (q0_rule : Nat) (q0_acts : Nat) (q0_real : Nat) (q0_trial : Nat) (q0_round : Nat) (q0_nights : Nat) (q0_before : Nat) (q0_history : Nat) (q0_kept : Nat) (q0_keptHouses : Nat) (q0_shortest : Nat) (q0_tracks : Nat) (q0_tally : Nat) (q0_told : Nat) (q0_town_hold : Nat) (q0_town_below : Nat) (q0_town_hay : Nat) (q0_real_state : Nat) (q0_real_owedBy : Nat) (q0_real_state_snow : Nat) (q0_real_state_path : Nat) (q0_real_state_debt : Nat) (i_toldCount : Int32) (i_town_houses : Int32) (i_real_owed : Int32) (i_real_slides : Int32) (i_real_struck : Int32) (i_real_slid : Int32) (i_real_state_now : Int32) (a_tally : Nat → Int32) (a_real_state_debt : Nat → Int32) (a_town_hay : Nat → Int32) (o9 : Int32 × (Nat → Int32)) (hf : fX11_summer i_town_houses a_tally a_real_state_debt a_town_hay = some o9) : CI l E yX11_summer cX11_summer 2 (some .int) 2 [.ref q0] (WX11_summer E q0 q0_text q0_town q0_weather q0_rule q0_acts q0_real q0_trial q0_round q0_nights q0_before q0_history q0_kept q0_keptHouses q0_shortest q0_tracks q0_tally q0_told q0_town_hold q0_town_below q0_town_hay q0_real_state q0_real_owedBy q0_real_state_snow q0_real_state_path q0_real_state_debt i_toldCount i_town_houses i_real_owed i_real_slides i_real_struck i_real_slid i_real_state_now a_tally a_real_state_debt a_town_hay) (WX11_summer E q0 q0_text q0_town q0_weather q0_rule q0_acts q0_real q0_trial q0_round q0_nights q0_before q0_history q0_kept q0_keptHouses q0_shortest q0_tracks q0_tally q0_told q0_town_hold q0_town_below q0_town_hay q0_real_state q0_real_owedBy q0_real_state_snow q0_real_state_path q0_real_state_debt i_toldCount i_town_houses i_real_owed i_real_slides i_real_struck i_real_slid i_real_state_now o9.2 a_real_state_debt a_town_hay) o9.1 := by
  refine begI (by decide +kernel) (Nat.le_of_ble_eq_true rfl) ?_
  intro p e s m args below meth c A Q C hA hret
  have hx := C.1
  have hb := C.2.1
  have L2 : ∀ (n : Nat) (v1 : Int32) (a_tally : Nat → Int32) (o : ((Nat → Int32)) ⊕ (Int32 × (Nat → Int32))), fX11_summer_L2 i_town_houses a_real_state_debt a_town_hay n v1 a_tally = some o → (∀ x, o = Sum.inl x → GO p l e 2 s m args below meth c Q E A 2 28 [] [] (WX11_summer E q0 q0_text q0_town q0_weather q0_rule q0_acts q0_real q0_trial q0_round q0_nights q0_before q0_history q0_kept q0_keptHouses q0_shortest q0_tracks q0_tally q0_told q0_town_hold q0_town_below q0_town_hay q0_real_state q0_real_owedBy q0_real_state_snow q0_real_state_path q0_real_state_debt i_toldCount i_town_houses i_real_owed i_real_slides i_real_struck i_real_slid i_real_state_now x a_real_state_debt a_town_hay)) → (∀ x, o = Sum.inr x → x = o9) → GO p l e 2 s m args below meth c Q E A 2 2 [] [(0, .ref q0), (1, .int v1)] (WX11_summer E q0 q0_text q0_town q0_weather q0_rule q0_acts q0_real q0_trial q0_round q0_nights q0_before q0_history q0_kept q0_keptHouses q0_shortest q0_tracks q0_tally q0_told q0_town_hold q0_town_below q0_town_hay q0_real_state q0_real_owedBy q0_real_state_snow q0_real_state_path q0_real_state_debt i_toldCount i_town_houses i_real_owed i_real_slides i_real_struck i_real_slid i_real_state_now a_tally a_real_state_debt a_town_hay) := by
    intro n
    induction n with
    | zero =>
      intro v1 a_tally o hf
      have hf : none = some o := hf
      cases hf
    | succ n ih =>
      intro v1 a_tally o hf hE hR
      intro H locs ls hl hP hD hS
      rw [fX11_summer_L2] at hf
      refine lv_iload_n hx hb dX11_summer_2 rfl (lv_at hl 1 rfl) ?_
      refine lv_bipush (v := 60) hx hb dX11_summer_3 (by decide) ?_
      refine lv_icmp_gt (tgt := 28) hx hb dX11_summer_5 (by decide) (fun c1 => ?_) (fun c1 => ?_)
      · rw [if_pos c1] at hf
        have hf := Option.some.inj hf
        subst hf
        exact (hE _ rfl) _ _ _ (lv_sub hl [] rfl) hP hD hS
      · rw [if_neg c1] at hf
        refine lv_aload_n hx hb dX11_summer_8 rfl (lv_at hl 0 rfl) ?_
        refine lv_iload_n hx hb dX11_summer_9 rfl (lv_at hl 1 rfl) ?_
        obtain ⟨o2, hg3, hf⟩ := bd_some hf
        refine k_VV2 (As := [.int v1]) C K_RX11_324 (Nat.le_of_ble_eq_true rfl) (Nat.le_of_ble_eq_true rfl) (kX11_workThrough l E q0 q0_text q0_town q0_weather q0_rule q0_acts q0_real q0_trial q0_round q0_nights q0_before q0_history q0_kept q0_keptHouses q0_shortest q0_tracks q0_tally q0_told q0_town_hold q0_town_below q0_town_hay q0_real_state q0_real_owedBy q0_real_state_snow q0_real_state_path q0_real_state_debt i_toldCount a_tally i_town_houses i_real_owed i_real_slides i_real_struck i_real_slid i_real_state_now a_real_state_debt v1 o2 hg3) [0, 4, 1, 2, 3, 5] rfl rfl rfl (ci := 11) rfl rfl (q0 := 0) rfl hP hD hS hA hl.1 (Nat.le_of_ble_eq_true rfl) rfl dX11_summer_10 (ws2 := (WX11_summer E q0 q0_text q0_town q0_weather q0_rule q0_acts q0_real q0_trial q0_round q0_nights q0_before q0_history q0_kept q0_keptHouses q0_shortest q0_tracks q0_tally q0_told q0_town_hold q0_town_below q0_town_hay q0_real_state q0_real_owedBy q0_real_state_snow q0_real_state_path q0_real_state_debt i_toldCount i_town_houses i_real_owed i_real_slides i_real_struck i_real_slid i_real_state_now o2 a_real_state_debt a_town_hay)) 7 [6] rfl rfl rfl rfl (by decide +kernel) (fun H locs hP hD hS => ?_)
        refine lv_aload_n hx hb dX11_summer_13 rfl (lv_at hl 0 rfl) ?_
        obtain ⟨o4, hg5, hf⟩ := bd_some hf
        refine k_VI2 (As := []) C K_RX11_327 (Nat.le_of_ble_eq_true rfl) (Nat.le_of_ble_eq_true rfl) (kX11_isAllHayIn l E q0 q0_text q0_town q0_weather q0_rule q0_acts q0_real q0_trial q0_round q0_nights q0_before q0_history q0_kept q0_keptHouses q0_shortest q0_tracks q0_tally q0_told q0_town_hold q0_town_below q0_town_hay i_toldCount i_town_houses o2 a_town_hay o4 hg5) [0, 1, 4, 6] rfl rfl rfl (ci := 11) rfl rfl (q0 := 0) rfl hP hD hS hA hl.1 (Nat.le_of_ble_eq_true rfl) rfl dX11_summer_14 (ws2 := (WX11_summer E q0 q0_text q0_town q0_weather q0_rule q0_acts q0_real q0_trial q0_round q0_nights q0_before q0_history q0_kept q0_keptHouses q0_shortest q0_tracks q0_tally q0_told q0_town_hold q0_town_below q0_town_hay q0_real_state q0_real_owedBy q0_real_state_snow q0_real_state_path q0_real_state_debt i_toldCount i_town_houses i_real_owed i_real_slides i_real_struck i_real_slid i_real_state_now o2 a_real_state_debt a_town_hay)) 7 [2, 3, 5] rfl rfl rfl rfl (by decide +kernel) (fun H locs hP hD hS => ?_)
        refine lv_if_eq (tgt := 22) hx hb dX11_summer_17 (by decide) (fun c6 => ?_) (fun c6 => ?_)
        · rw [if_pos c6] at hf
          refine lv_iinc (v := (v1 + 1)) (lv' := [(1, .int ((v1 + 1))), (0, .ref q0)]) hx hb dX11_summer_22 hl (k := 1) rfl rfl (by decide) rfl (fun ls hl => ?_)
          refine lv_goto (tgt := 2) hx hb dX11_summer_25 (by decide) ?_
          exact ih ((v1 + 1)) o2 _ hf hE hR _ _ _ (lv_sub hl [1, 0] rfl) hP hD hS
        · rw [if_neg c6] at hf
          refine lv_iload_n hx hb dX11_summer_20 rfl (lv_at hl 1 rfl) ?_
          have hf := Option.some.inj hf
          subst hf
          have hj0 := hR _ rfl
          subst hj0
          exact hret _ _ _ _ dX11_summer_21 rfl hP hD hS
  intro H locs ls hl hP hD hS
  have hl : lv_has ls 2 [(0, .ref q0)] := hl
  unfold fX11_summer at hf
  refine lv_iconst (v := 0) hx hb dX11_summer_0 (by decide) ?_
  refine lv_istore_n (lv' := [(1, .int 0), (0, .ref q0)]) hx hb dX11_summer_1 rfl hl (by decide) rfl (fun ls hl => ?_)
  obtain ⟨o7, hg8, hf⟩ := bd_some hf
  refine L2 FU 0 a_tally o7 hg8 ?_ ?_ _ _ _ (lv_sub hl [1, 0] rfl) hP hD hS
  · intro x9 hxx
    rw [hxx, Sum.elim_inl] at hf
    intro H locs ls hl hP hD hS
    refine lv_bipush (v := (-2)) hx hb dX11_summer_28 (by decide) ?_
    have hj0 := Option.some.inj hf
    subst hj0
    exact hret _ _ _ _ dX11_summer_30 rfl hP hD hS
  · intro x hxx
    rw [hxx, Sum.elim_inr] at hf
    exact Option.some.inj hf
theorem q412 : Cond.fieldLink RX11 53 "SnowForSummer" "trial" "LSnowForSummer$Walk;" ∈ Tg := Tg_mem 412 (by decide +kernel) (by decide +kernel)
theorem gf_RX11_53 {p : Program} {l : Launch} {e : Env} {R : Room} {s : State} {m : MethodId} {args : Array Value} {below : List Frame} {meth : Method} {c : Code} {H : Heap} {locs : List Loc} {cells slots : Nat} {Q : State → Prop} {E : ENV} {cc : ByteArray} {n : Nat} {r : Option FieldType} {pc : Nat} {ls : Array Slot} {rest : List Value} {a : Nat} {ws : va_W} {nm ds : String} {fs : List Value} {A : Nat → Prop} {v : Value} (C : Cx E A ⟨RX11, nm, ds⟩ cc n r p s m args meth c) (hP : va_P E.1 classes ws H) (q0 : Nat) (he : ws[q0]? = some (a, .inr (11, fs))) (hv : fs[6]? = some v) (hdg : decode cc pc = .ok (.getfield 53, 3))
    (kk : W p l e R s m args below meth c H locs cells slots Q (F0 m (pc + 3) ls (v :: rest))) : W p l e R s m args below meth c H locs cells slots Q (F0 m pc ls (.ref a :: rest)) :=
  va_get (C := RX11) (T := TX11) (N := 18) (Ts := wl ⟨RX11, nm, ds⟩ cc n r) C.1 C.2.1 C.2.2.2.2.1 (fun w h => List.mem_cons_of_mem _ (inT11 w h)) C.2.2.2.1 C.2.2.2.2.2.1 hP q0 he rfl 6 (by decide) (C.2.2.2.2.1 _ (List.mem_cons_of_mem _ q412)) (fun _ h9 => h9) hv hdg kk
theorem K_RX11_331 : KV RX11 331 yX9_walkFrom cX9_walkFrom 4 none 2 := ⟨Tg_mem 1038 (by decide +kernel) (by decide +kernel), Tg_mem 96 (by decide +kernel) (by decide +kernel), Tg_mem 1035 (by decide +kernel) (by decide +kernel), Tg_mem 1036 (by decide +kernel) (by decide +kernel), Tg_mem 1037 (by decide +kernel) (by decide +kernel), by decide +kernel⟩
theorem q279 : Cond.fieldLinkNest RX11 335 "SnowForSummer$Walk" "owedBy" "[I" "SnowForSummer" ∈ NL := NL_mem 279 (by decide +kernel) (by decide +kernel)
theorem gf_RX11_335 {p : Program} {l : Launch} {e : Env} {R : Room} {s : State} {m : MethodId} {args : Array Value} {below : List Frame} {meth : Method} {c : Code} {H : Heap} {locs : List Loc} {cells slots : Nat} {Q : State → Prop} {E : ENV} {cc : ByteArray} {n : Nat} {r : Option FieldType} {pc : Nat} {ls : Array Slot} {rest : List Value} {a : Nat} {ws : va_W} {nm ds : String} {fs : List Value} {A : Nat → Prop} {v : Value} (C : Cx E A ⟨RX11, nm, ds⟩ cc n r p s m args meth c) (hP : va_P E.1 classes ws H) (q0 : Nat) (he : ws[q0]? = some (a, .inr (9, fs))) (hv : fs[4]? = some v) (hdg : decode cc pc = .ok (.getfield 335, 3))
    (kk : W p l e R s m args below meth c H locs cells slots Q (F0 m (pc + 3) ls (v :: rest))) : W p l e R s m args below meth c H locs cells slots Q (F0 m pc ls (.ref a :: rest)) :=
  va_getN (C := RX9) (T := TX9) (N := 9) (Ts := wl ⟨RX11, nm, ds⟩ cc n r) C.1 C.2.1 C.2.2.2.2.1 (fun w h => List.mem_cons_of_mem _ (inT9 w h)) C.2.2.2.1 C.2.2.2.2.2.1 hP q0 he rfl 4 (by decide) (va_Nw.use rfl (C.2.2.2.2.2.2.2.2.1 _ q279)) (fun _ h9 => h9) hv hdg kk
