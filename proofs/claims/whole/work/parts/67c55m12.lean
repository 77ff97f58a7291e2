theorem dX11_gang_0 : decode cX11_gang 0 = .ok (.iload_n 1, 1) := by decide +kernel
theorem dX11_gang_1 : decode cX11_gang 1 = .ok (.ifCond .ge 5, 3) := by decide +kernel
theorem dX11_gang_4 : decode cX11_gang 4 = .ok (.iconst (-1), 1) := by decide +kernel
theorem dX11_gang_5 : decode cX11_gang 5 = .ok (.ireturn, 1) := by decide +kernel
theorem dX11_gang_6 : decode cX11_gang 6 = .ok (.iconst (-1), 1) := by decide +kernel
theorem dX11_gang_7 : decode cX11_gang 7 = .ok (.istore_n 2, 1) := by decide +kernel
theorem dX11_gang_8 : decode cX11_gang 8 = .ok (.bipush 8, 2) := by decide +kernel
theorem dX11_gang_10 : decode cX11_gang 10 = .ok (.istore_n 3, 1) := by decide +kernel
theorem dX11_gang_11 : decode cX11_gang 11 = .ok (.aload_n 0, 1) := by decide +kernel
theorem dX11_gang_12 : decode cX11_gang 12 = .ok (.getfield 98, 3) := by decide +kernel
theorem dX11_gang_15 : decode cX11_gang 15 = .ok (.invokevirtual 399, 3) := by decide +kernel
theorem dX11_gang_18 : decode cX11_gang 18 = .ok (.iconst 0, 1) := by decide +kernel
theorem dX11_gang_19 : decode cX11_gang 19 = .ok (.istore 4, 2) := by decide +kernel
theorem dX11_gang_21 : decode cX11_gang 21 = .ok (.iload 4, 2) := by decide +kernel
theorem dX11_gang_23 : decode cX11_gang 23 = .ok (.aload_n 0, 1) := by decide +kernel
theorem dX11_gang_24 : decode cX11_gang 24 = .ok (.getfield 19, 3) := by decide +kernel
theorem dX11_gang_27 : decode cX11_gang 27 = .ok (.invokevirtual 354, 3) := by decide +kernel
theorem dX11_gang_30 : decode cX11_gang 30 = .ok (.if_icmp .gt 40, 3) := by decide +kernel
theorem dX11_gang_33 : decode cX11_gang 33 = .ok (.iload 4, 2) := by decide +kernel
theorem dX11_gang_35 : decode cX11_gang 35 = .ok (.invokestatic 346, 3) := by decide +kernel
theorem dX11_gang_38 : decode cX11_gang 38 = .ok (.iload_n 3, 1) := by decide +kernel
theorem dX11_gang_39 : decode cX11_gang 39 = .ok (.if_icmp .ge 25, 3) := by decide +kernel
theorem dX11_gang_42 : decode cX11_gang 42 = .ok (.aload_n 0, 1) := by decide +kernel
theorem dX11_gang_43 : decode cX11_gang 43 = .ok (.getfield 98, 3) := by decide +kernel
theorem dX11_gang_46 : decode cX11_gang 46 = .ok (.iload 4, 2) := by decide +kernel
theorem dX11_gang_48 : decode cX11_gang 48 = .ok (.iload_n 1, 1) := by decide +kernel
theorem dX11_gang_49 : decode cX11_gang 49 = .ok (.invokevirtual 405, 3) := by decide +kernel
theorem dX11_gang_52 : decode cX11_gang 52 = .ok (.ifCond .eq 12, 3) := by decide +kernel
theorem dX11_gang_55 : decode cX11_gang 55 = .ok (.iload 4, 2) := by decide +kernel
theorem dX11_gang_57 : decode cX11_gang 57 = .ok (.istore_n 2, 1) := by decide +kernel
theorem dX11_gang_58 : decode cX11_gang 58 = .ok (.iload 4, 2) := by decide +kernel
theorem dX11_gang_60 : decode cX11_gang 60 = .ok (.invokestatic 346, 3) := by decide +kernel
theorem dX11_gang_63 : decode cX11_gang 63 = .ok (.istore_n 3, 1) := by decide +kernel
theorem dX11_gang_64 : decode cX11_gang 64 = .ok (.iinc 4 1, 3) := by decide +kernel
theorem dX11_gang_67 : decode cX11_gang 67 = .ok (.goto (-46), 3) := by decide +kernel
theorem dX11_gang_70 : decode cX11_gang 70 = .ok (.iload_n 2, 1) := by decide +kernel
theorem dX11_gang_71 : decode cX11_gang 71 = .ok (.iconst (-1), 1) := by decide +kernel
theorem dX11_gang_72 : decode cX11_gang 72 = .ok (.if_icmp .ne 6, 3) := by decide +kernel
theorem dX11_gang_75 : decode cX11_gang 75 = .ok (.bipush (-2), 2) := by decide +kernel
theorem dX11_gang_77 : decode cX11_gang 77 = .ok (.ireturn, 1) := by decide +kernel
theorem dX11_gang_78 : decode cX11_gang 78 = .ok (.aload_n 0, 1) := by decide +kernel
theorem dX11_gang_79 : decode cX11_gang 79 = .ok (.iload_n 2, 1) := by decide +kernel
theorem dX11_gang_80 : decode cX11_gang 80 = .ok (.invokevirtual 244, 3) := by decide +kernel
theorem dX11_gang_83 : decode cX11_gang 83 = .ok (.iload_n 3, 1) := by decide +kernel
theorem dX11_gang_84 : decode cX11_gang 84 = .ok (.ireturn, 1) := by decide +kernel
def WX11_gang (E : ENV) (q0 : Nat) (q0_text : Nat) (q0_town : Nat) (q0_weather : Nat) (q0_rule : Nat) (q0_acts : Nat) (q0_real : Nat) (q0_trial : Nat) (q0_round : Nat) (q0_nights : Nat) (q0_before : Nat) (q0_history : Nat) (q0_kept : Nat) (q0_keptHouses : Nat) (q0_shortest : Nat) (q0_tracks : Nat) (q0_tally : Nat) (q0_told : Nat) (q0_tracks_house : Nat) (q0_tracks_night : Nat) (q0_tracks_out : Nat) (q0_town_hold : Nat) (q0_town_below : Nat) (q0_town_hay : Nat) (i_toldCount : Int32) (i_tracks_size : Int32) (a_tracks_out : Nat → Int32) (a_tracks_night : Nat → Int32) (a_tracks_house : Nat → Int32) (i_town_houses : Int32) (a_told : Nat → Int32) : va_W := [(q0, .inr (11, [.ref q0_text, .ref q0_town, .ref q0_weather, .ref q0_rule, .ref q0_acts, .ref q0_real, .ref q0_trial, .ref q0_round, .ref q0_nights, .ref q0_before, .ref q0_history, .ref q0_kept, .ref q0_keptHouses, .ref q0_shortest, .ref q0_tracks, .ref q0_tally, .ref q0_told, .int i_toldCount])), (q0_tracks, .inr (8, [.ref q0_tracks_house, .ref q0_tracks_night, .ref q0_tracks_out, .int i_tracks_size])), (q0_tracks_out, .inl (E.2.1, 31, .inl a_tracks_out)), (q0_tracks_night, .inl (E.2.1, 20, .inl a_tracks_night)), (q0_tracks_house, .inl (E.2.1, 20, .inl a_tracks_house)), (q0_town, .inr (7, [.ref q0_town_hold, .ref q0_town_below, .ref q0_town_hay, .int i_town_houses])), (q0_told, .inl (E.2.1, 8, .inl a_told))]
set_option maxHeartbeats 4000000 in
set_option maxRecDepth 20000 in
theorem kX11_gang (l : Launch) (E : ENV) (q0 : Nat) (q0_text : Nat) (q0_town : Nat) (q0_weather : Nat) (q0_rule : Nat) (q0_acts : Nat) (q0_real : Nat) (q0_trial : Nat) (q0_round : Nat) (q0_nights : Nat) (q0_before : Nat) (q0_history : Nat) (q0_kept : Nat) (q0_keptHouses : Nat) (q0_shortest : Nat) (q0_tracks : Nat) (q0_tally : Nat) (q0_told : Nat) (q0_tracks_house : Nat) (q0_tracks_night : Nat) (q0_tracks_out : Nat) (q0_town_hold : Nat) (q0_town_below : Nat) (q0_town_hay : Nat) (i_toldCount : Int32) (i_tracks_size : Int32) (a_tracks_out : Nat → Int32) (a_tracks_night : Nat → Int32) (a_tracks_house : Nat → Int32) (i_town_houses : Int32) (a_told : Nat → Int32) (p1 : Int32) (o9 : Int32 × Int32 × (Nat → Int32) × (Nat → Int32)) (hf : fX11_gang i_toldCount i_tracks_size a_tracks_out a_tracks_night a_tracks_house i_town_houses a_told p1 = some o9) : CI l E yX11_gang cX11_gang 5 (some .int) 2 [.ref q0, .int p1] (WX11_gang E q0 q0_text q0_town q0_weather q0_rule q0_acts q0_real q0_trial q0_round q0_nights q0_before q0_history q0_kept q0_keptHouses q0_shortest q0_tracks q0_tally q0_told q0_tracks_house q0_tracks_night q0_tracks_out q0_town_hold q0_town_below q0_town_hay i_toldCount i_tracks_size a_tracks_out a_tracks_night a_tracks_house i_town_houses a_told) (WX11_gang E q0 q0_text q0_town q0_weather q0_rule q0_acts q0_real q0_trial q0_round q0_nights q0_before q0_history q0_kept q0_keptHouses q0_shortest q0_tracks q0_tally q0_told q0_tracks_house q0_tracks_night q0_tracks_out q0_town_hold q0_town_below q0_town_hay o9.2.1 i_tracks_size o9.2.2.1 a_tracks_night a_tracks_house i_town_houses o9.2.2.2) o9.1 := by
  refine begI (by decide +kernel) (Nat.le_of_ble_eq_true rfl) ?_
  intro p e s m args below meth c A Q C hA hret
  have hx := C.1
  have hb := C.2.1
  have L21 : ∀ (i_toldCount : Int32) (a_tracks_out : Nat → Int32) (a_told : Nat → Int32), ∀ (n : Nat) (v2 : Int32) (v3 : Int32) (v4 : Int32) (o : Int32 × Int32), fX11_gang_L21 i_town_houses p1 a_tracks_out n v2 v3 v4 = some o → (GO p l e 2 s m args below meth c Q E A 5 70 [] [(0, .ref q0), (2, .int o.1), (3, .int o.2)] (WX11_gang E q0 q0_text q0_town q0_weather q0_rule q0_acts q0_real q0_trial q0_round q0_nights q0_before q0_history q0_kept q0_keptHouses q0_shortest q0_tracks q0_tally q0_told q0_tracks_house q0_tracks_night q0_tracks_out q0_town_hold q0_town_below q0_town_hay i_toldCount i_tracks_size a_tracks_out a_tracks_night a_tracks_house i_town_houses a_told)) → GO p l e 2 s m args below meth c Q E A 5 21 [] [(0, .ref q0), (1, .int p1), (2, .int v2), (3, .int v3), (4, .int v4)] (WX11_gang E q0 q0_text q0_town q0_weather q0_rule q0_acts q0_real q0_trial q0_round q0_nights q0_before q0_history q0_kept q0_keptHouses q0_shortest q0_tracks q0_tally q0_told q0_tracks_house q0_tracks_night q0_tracks_out q0_town_hold q0_town_below q0_town_hay i_toldCount i_tracks_size a_tracks_out a_tracks_night a_tracks_house i_town_houses a_told) := by
    intro i_toldCount a_tracks_out a_told
    intro n
    induction n with
    | zero =>
      intro v2 v3 v4 o hf
      have hf : none = some o := hf
      cases hf
    | succ n ih =>
      intro v2 v3 v4 o hf hE
      intro H locs ls hl hP hD hS
      rw [fX11_gang_L21] at hf
      refine lv_iload hx hb dX11_gang_21 (lv_at hl 4 rfl) ?_
      refine lv_aload_n hx hb dX11_gang_23 rfl (lv_at hl 0 rfl) ?_
      refine gf_RX11_19 C hP 0 rfl rfl dX11_gang_24 ?_
      obtain ⟨o4, hg5, hf⟩ := bd_some hf
      refine k_VI2 (As := []) C K_RX11_354 (Nat.le_of_ble_eq_true rfl) (Nat.le_of_ble_eq_true rfl) (kX7_allBits l E q0_town q0_town_hold q0_town_below q0_town_hay i_town_houses o4 hg5) [5] rfl rfl rfl (ci := 7) rfl rfl (q0 := 0) rfl hP hD hS hA hl.1 (Nat.le_of_ble_eq_true rfl) rfl dX11_gang_27 (ws2 := (WX11_gang E q0 q0_text q0_town q0_weather q0_rule q0_acts q0_real q0_trial q0_round q0_nights q0_before q0_history q0_kept q0_keptHouses q0_shortest q0_tracks q0_tally q0_told q0_tracks_house q0_tracks_night q0_tracks_out q0_town_hold q0_town_below q0_town_hay i_toldCount i_tracks_size a_tracks_out a_tracks_night a_tracks_house i_town_houses a_told)) 7 [0, 1, 2, 3, 4, 6] rfl rfl rfl rfl (by decide +kernel) (fun H locs hP hD hS => ?_)
      refine lv_icmp_gt (tgt := 70) hx hb dX11_gang_30 (by decide) (fun c6 => ?_) (fun c6 => ?_)
      · rw [if_pos c6] at hf
        have hf := Option.some.inj hf
        subst hf
        exact hE _ _ _ (lv_sub hl [0, 2, 3] rfl) hP hD hS
      · rw [if_neg c6] at hf
        refine lv_iload hx hb dX11_gang_33 (lv_at hl 4 rfl) ?_
        obtain ⟨o7, hg8, hf⟩ := bd_some hf
        refine k_SI2 (As := [.int v4]) C K_RX11_346 (Nat.le_of_ble_eq_true rfl) (Nat.le_of_ble_eq_true rfl) (kJ6_bitCount_0f7a4 l E v4 o7 hg8) [] rfl rfl rfl  hP hD hS hA hl.1 (Nat.le_of_ble_eq_true rfl) rfl dX11_gang_35 (ws2 := (WX11_gang E q0 q0_text q0_town q0_weather q0_rule q0_acts q0_real q0_trial q0_round q0_nights q0_before q0_history q0_kept q0_keptHouses q0_shortest q0_tracks q0_tally q0_told q0_tracks_house q0_tracks_night q0_tracks_out q0_town_hold q0_town_below q0_town_hay i_toldCount i_tracks_size a_tracks_out a_tracks_night a_tracks_house i_town_houses a_told)) 7 [0, 1, 2, 3, 4, 5, 6] rfl rfl rfl rfl (by decide +kernel) (fun H locs hP hD hS => ?_)
        refine lv_iload_n hx hb dX11_gang_38 rfl (lv_at hl 3 rfl) ?_
        refine lv_icmp_ge (tgt := 64) hx hb dX11_gang_39 (by decide) (fun c9 => ?_) (fun c9 => ?_)
        · rw [if_pos c9] at hf
          refine lv_iinc (v := (v4 + 1)) (lv' := [(4, .int ((v4 + 1))), (0, .ref q0), (1, .int p1), (2, .int v2), (3, .int v3)]) hx hb dX11_gang_64 hl (k := 4) rfl rfl (by decide) rfl (fun ls hl => ?_)
          refine lv_goto (tgt := 21) hx hb dX11_gang_67 (by decide) ?_
          exact ih v2 v3 ((v4 + 1)) _ hf hE _ _ _ (lv_sub hl [1, 2, 3, 4, 0] rfl) hP hD hS
        · rw [if_neg c9] at hf
          refine lv_aload_n hx hb dX11_gang_42 rfl (lv_at hl 0 rfl) ?_
          refine gf_RX11_98 C hP 0 rfl rfl dX11_gang_43 ?_
          refine lv_iload hx hb dX11_gang_46 (lv_at hl 4 rfl) ?_
          refine lv_iload_n hx hb dX11_gang_48 rfl (lv_at hl 1 rfl) ?_
          obtain ⟨o10, hg11, hf⟩ := bd_some hf
          refine k_VI2 (As := [.int v4, .int p1]) C K_RX11_405 (Nat.le_of_ble_eq_true rfl) (Nat.le_of_ble_eq_true rfl) (kX8_areSeen l E q0_tracks q0_tracks_house q0_tracks_night q0_tracks_out i_tracks_size a_tracks_out v4 p1 o10 hg11) [1, 2] rfl rfl rfl (ci := 8) rfl rfl (q0 := 0) rfl hP hD hS hA hl.1 (Nat.le_of_ble_eq_true rfl) rfl dX11_gang_49 (ws2 := (WX11_gang E q0 q0_text q0_town q0_weather q0_rule q0_acts q0_real q0_trial q0_round q0_nights q0_before q0_history q0_kept q0_keptHouses q0_shortest q0_tracks q0_tally q0_told q0_tracks_house q0_tracks_night q0_tracks_out q0_town_hold q0_town_below q0_town_hay i_toldCount i_tracks_size a_tracks_out a_tracks_night a_tracks_house i_town_houses a_told)) 7 [0, 3, 4, 5, 6] rfl rfl rfl rfl (by decide +kernel) (fun H locs hP hD hS => ?_)
          refine lv_if_eq (tgt := 64) hx hb dX11_gang_52 (by decide) (fun c12 => ?_) (fun c12 => ?_)
          · rw [if_pos c12] at hf
            refine lv_iinc (v := (v4 + 1)) (lv' := [(4, .int ((v4 + 1))), (0, .ref q0), (1, .int p1), (2, .int v2), (3, .int v3)]) hx hb dX11_gang_64 hl (k := 4) rfl rfl (by decide) rfl (fun ls hl => ?_)
            refine lv_goto (tgt := 21) hx hb dX11_gang_67 (by decide) ?_
            exact ih v2 v3 ((v4 + 1)) _ hf hE _ _ _ (lv_sub hl [1, 2, 3, 4, 0] rfl) hP hD hS
          · rw [if_neg c12] at hf
            refine lv_iload hx hb dX11_gang_55 (lv_at hl 4 rfl) ?_
            refine lv_istore_n (lv' := [(2, .int v4), (0, .ref q0), (1, .int p1), (3, .int v3), (4, .int v4)]) hx hb dX11_gang_57 rfl hl (by decide) rfl (fun ls hl => ?_)
            refine lv_iload hx hb dX11_gang_58 (lv_at hl 4 rfl) ?_
            obtain ⟨o13, hg14, hf⟩ := bd_some hf
            refine k_SI2 (As := [.int v4]) C K_RX11_346 (Nat.le_of_ble_eq_true rfl) (Nat.le_of_ble_eq_true rfl) (kJ6_bitCount_0f7a4 l E v4 o13 hg14) [] rfl rfl rfl  hP hD hS hA hl.1 (Nat.le_of_ble_eq_true rfl) rfl dX11_gang_60 (ws2 := (WX11_gang E q0 q0_text q0_town q0_weather q0_rule q0_acts q0_real q0_trial q0_round q0_nights q0_before q0_history q0_kept q0_keptHouses q0_shortest q0_tracks q0_tally q0_told q0_tracks_house q0_tracks_night q0_tracks_out q0_town_hold q0_town_below q0_town_hay i_toldCount i_tracks_size a_tracks_out a_tracks_night a_tracks_house i_town_houses a_told)) 7 [0, 1, 2, 3, 4, 5, 6] rfl rfl rfl rfl (by decide +kernel) (fun H locs hP hD hS => ?_)
            refine lv_istore_n (lv' := [(3, .int o13), (2, .int v4), (0, .ref q0), (1, .int p1), (4, .int v4)]) hx hb dX11_gang_63 rfl hl (by decide) rfl (fun ls hl => ?_)
            refine lv_iinc (v := (v4 + 1)) (lv' := [(4, .int ((v4 + 1))), (3, .int o13), (2, .int v4), (0, .ref q0), (1, .int p1)]) hx hb dX11_gang_64 hl (k := 4) rfl rfl (by decide) rfl (fun ls hl => ?_)
            refine lv_goto (tgt := 21) hx hb dX11_gang_67 (by decide) ?_
            exact ih v4 o13 ((v4 + 1)) _ hf hE _ _ _ (lv_sub hl [3, 4, 2, 1, 0] rfl) hP hD hS
  intro H locs ls hl hP hD hS
  have hl : lv_has ls 5 [(0, .ref q0), (1, .int p1)] := hl
  unfold fX11_gang at hf
  refine lv_iload_n hx hb dX11_gang_0 rfl (lv_at hl 1 rfl) ?_
  refine lv_if_ge (tgt := 6) hx hb dX11_gang_1 (by decide) (fun c1 => ?_) (fun c1 => ?_)
  · rw [if_pos c1] at hf
    refine lv_iconst (v := (-1)) hx hb dX11_gang_6 (by decide) ?_
    refine lv_istore_n (lv' := [(2, .int ((-1))), (0, .ref q0), (1, .int p1)]) hx hb dX11_gang_7 rfl hl (by decide) rfl (fun ls hl => ?_)
    refine lv_bipush (v := 8) hx hb dX11_gang_8 (by decide) ?_
    refine lv_istore_n (lv' := [(3, .int 8), (2, .int ((-1))), (0, .ref q0), (1, .int p1)]) hx hb dX11_gang_10 rfl hl (by decide) rfl (fun ls hl => ?_)
    refine lv_aload_n hx hb dX11_gang_11 rfl (lv_at hl 2 rfl) ?_
    refine gf_RX11_98 C hP 0 rfl rfl dX11_gang_12 ?_
    obtain ⟨o2, hg3, hf⟩ := bd_some hf
    refine k_VV2 (As := []) C K_RX11_399 (Nat.le_of_ble_eq_true rfl) (Nat.le_of_ble_eq_true rfl) (kX8_gather l E q0_tracks q0_tracks_house q0_tracks_night q0_tracks_out i_tracks_size a_tracks_out a_tracks_night a_tracks_house o2 hg3) [1, 2, 3, 4] rfl rfl rfl (ci := 8) rfl rfl (q0 := 0) rfl hP hD hS hA hl.1 (Nat.le_of_ble_eq_true rfl) rfl dX11_gang_15 (ws2 := (WX11_gang E q0 q0_text q0_town q0_weather q0_rule q0_acts q0_real q0_trial q0_round q0_nights q0_before q0_history q0_kept q0_keptHouses q0_shortest q0_tracks q0_tally q0_told q0_tracks_house q0_tracks_night q0_tracks_out q0_town_hold q0_town_below q0_town_hay i_toldCount i_tracks_size o2 a_tracks_night a_tracks_house i_town_houses a_told)) 7 [0, 5, 6] rfl rfl rfl rfl (by decide +kernel) (fun H locs hP hD hS => ?_)
    refine lv_iconst (v := 0) hx hb dX11_gang_18 (by decide) ?_
    refine lv_istore (lv' := [(4, .int 0), (3, .int 8), (2, .int ((-1))), (0, .ref q0), (1, .int p1)]) hx hb dX11_gang_19 hl (by decide) rfl (fun ls hl => ?_)
    obtain ⟨o15, hg16, hf⟩ := bd_some hf
    refine L21 i_toldCount o2 a_told FU ((-1)) 8 0 o15 hg16 ?_ _ _ _ (lv_sub hl [3, 4, 2, 1, 0] rfl) hP hD hS
    intro H locs ls hl hP hD hS
    refine lv_iload_n hx hb dX11_gang_70 rfl (lv_at hl 1 rfl) ?_
    refine lv_iconst (v := (-1)) hx hb dX11_gang_71 (by decide) ?_
    refine lv_icmp_ne (tgt := 78) hx hb dX11_gang_72 (by decide) (fun c17 => ?_) (fun c17 => ?_)
    · rw [if_neg c17] at hf
      refine lv_aload_n hx hb dX11_gang_78 rfl (lv_at hl 0 rfl) ?_
      refine lv_iload_n hx hb dX11_gang_79 rfl (lv_at hl 1 rfl) ?_
      obtain ⟨o18, hg19, hf⟩ := bd_some hf
      refine k_VV2 (As := [.int o15.1]) C K_RX11_244 (Nat.le_of_ble_eq_true rfl) (Nat.le_of_ble_eq_true rfl) (kX11_tell l E q0 q0_text q0_town q0_weather q0_rule q0_acts q0_real q0_trial q0_round q0_nights q0_before q0_history q0_kept q0_keptHouses q0_shortest q0_tracks q0_tally q0_told i_toldCount a_told o15.1 o18 hg19) [0, 6] rfl rfl rfl (ci := 11) rfl rfl (q0 := 0) rfl hP hD hS hA hl.1 (Nat.le_of_ble_eq_true rfl) rfl dX11_gang_80 (ws2 := (WX11_gang E q0 q0_text q0_town q0_weather q0_rule q0_acts q0_real q0_trial q0_round q0_nights q0_before q0_history q0_kept q0_keptHouses q0_shortest q0_tracks q0_tally q0_told q0_tracks_house q0_tracks_night q0_tracks_out q0_town_hold q0_town_below q0_town_hay o18.1 i_tracks_size o2 a_tracks_night a_tracks_house i_town_houses o18.2)) 7 [1, 2, 3, 4, 5] rfl rfl rfl rfl (by decide +kernel) (fun H locs hP hD hS => ?_)
      refine lv_iload_n hx hb dX11_gang_83 rfl (lv_at hl 2 rfl) ?_
      have hj0 := Option.some.inj hf
      subst hj0
      exact hret _ _ _ _ dX11_gang_84 rfl hP hD hS
    · rw [if_pos c17] at hf
      refine lv_bipush (v := (-2)) hx hb dX11_gang_75 (by decide) ?_
      have hj0 := Option.some.inj hf
      subst hj0
      exact hret _ _ _ _ dX11_gang_77 rfl hP hD hS
  · rw [if_neg c1] at hf
    refine lv_iconst (v := (-1)) hx hb dX11_gang_4 (by decide) ?_
    have hj0 := Option.some.inj hf
    subst hj0
    exact hret _ _ _ _ dX11_gang_5 rfl hP hD hS
theorem q417 : Cond.fieldLink RX11 80 "SnowForSummer" "kept" "[LSnowForSummer$State;" ∈ Tg := Tg_mem 417 (by decide +kernel) (by decide +kernel)
theorem gf_RX11_80 {p : Program} {l : Launch} {e : Env} {R : Room} {s : State} {m : MethodId} {args : Array Value} {below : List Frame} {meth : Method} {c : Code} {H : Heap} {locs : List Loc} {cells slots : Nat} {Q : State → Prop} {E : ENV} {cc : ByteArray} {n : Nat} {r : Option FieldType} {pc : Nat} {ls : Array Slot} {rest : List Value} {a : Nat} {ws : va_W} {nm ds : String} {fs : List Value} {A : Nat → Prop} {v : Value} (C : Cx E A ⟨RX11, nm, ds⟩ cc n r p s m args meth c) (hP : va_P E.1 classes ws H) (q0 : Nat) (he : ws[q0]? = some (a, .inr (11, fs))) (hv : fs[11]? = some v) (hdg : decode cc pc = .ok (.getfield 80, 3))
    (kk : W p l e R s m args below meth c H locs cells slots Q (F0 m (pc + 3) ls (v :: rest))) : W p l e R s m args below meth c H locs cells slots Q (F0 m pc ls (.ref a :: rest)) :=
  va_get (C := RX11) (T := TX11) (N := 18) (Ts := wl ⟨RX11, nm, ds⟩ cc n r) C.1 C.2.1 C.2.2.2.2.1 (fun w h => List.mem_cons_of_mem _ (inT11 w h)) C.2.2.2.1 C.2.2.2.2.2.1 hP q0 he rfl 11 (by decide) (C.2.2.2.2.1 _ (List.mem_cons_of_mem _ q417)) (fun _ h9 => h9) hv hdg kk
theorem q418 : Cond.fieldLink RX11 84 "SnowForSummer" "keptHouses" "[I" ∈ Tg := Tg_mem 418 (by decide +kernel) (by decide +kernel)
theorem gf_RX11_84 {p : Program} {l : Launch} {e : Env} {R : Room} {s : State} {m : MethodId} {args : Array Value} {below : List Frame} {meth : Method} {c : Code} {H : Heap} {locs : List Loc} {cells slots : Nat} {Q : State → Prop} {E : ENV} {cc : ByteArray} {n : Nat} {r : Option FieldType} {pc : Nat} {ls : Array Slot} {rest : List Value} {a : Nat} {ws : va_W} {nm ds : String} {fs : List Value} {A : Nat → Prop} {v : Value} (C : Cx E A ⟨RX11, nm, ds⟩ cc n r p s m args meth c) (hP : va_P E.1 classes ws H) (q0 : Nat) (he : ws[q0]? = some (a, .inr (11, fs))) (hv : fs[12]? = some v) (hdg : decode cc pc = .ok (.getfield 84, 3))
    (kk : W p l e R s m args below meth c H locs cells slots Q (F0 m (pc + 3) ls (v :: rest))) : W p l e R s m args below meth c H locs cells slots Q (F0 m pc ls (.ref a :: rest)) :=
  va_get (C := RX11) (T := TX11) (N := 18) (Ts := wl ⟨RX11, nm, ds⟩ cc n r) C.1 C.2.1 C.2.2.2.2.1 (fun w h => List.mem_cons_of_mem _ (inT11 w h)) C.2.2.2.1 C.2.2.2.2.2.1 hP q0 he rfl 12 (by decide) (C.2.2.2.2.1 _ (List.mem_cons_of_mem _ q418)) (fun _ h9 => h9) hv hdg kk
theorem dX11_keep_0 : decode cX11_keep 0 = .ok (.iload_n 1, 1) := by decide +kernel
theorem dX11_keep_1 : decode cX11_keep 1 = .ok (.iconst 0, 1) := by decide +kernel
theorem dX11_keep_2 : decode cX11_keep 2 = .ok (.iconst 1, 1) := by decide +kernel
theorem dX11_keep_3 : decode cX11_keep 3 = .ok (.invokestatic 128, 3) := by decide +kernel
theorem dX11_keep_6 : decode cX11_keep 6 = .ok (.ifCond .ne 5, 3) := by decide +kernel
theorem dX11_keep_9 : decode cX11_keep 9 = .ok (.iconst 0, 1) := by decide +kernel
theorem dX11_keep_10 : decode cX11_keep 10 = .ok (.ireturn, 1) := by decide +kernel
theorem dX11_keep_11 : decode cX11_keep 11 = .ok (.aload_n 0, 1) := by decide +kernel
theorem dX11_keep_12 : decode cX11_keep 12 = .ok (.getfield 80, 3) := by decide +kernel
theorem dX11_keep_15 : decode cX11_keep 15 = .ok (.iload_n 1, 1) := by decide +kernel
theorem dX11_keep_16 : decode cX11_keep 16 = .ok (.aaload, 1) := by decide +kernel
theorem dX11_keep_17 : decode cX11_keep 17 = .ok (.aload_n 0, 1) := by decide +kernel
theorem dX11_keep_18 : decode cX11_keep 18 = .ok (.getfield 49, 3) := by decide +kernel
theorem dX11_keep_21 : decode cX11_keep 21 = .ok (.getfield 148, 3) := by decide +kernel
theorem dX11_keep_24 : decode cX11_keep 24 = .ok (.invokevirtual 274, 3) := by decide +kernel
theorem dX11_keep_27 : decode cX11_keep 27 = .ok (.aload_n 0, 1) := by decide +kernel
theorem dX11_keep_28 : decode cX11_keep 28 = .ok (.getfield 84, 3) := by decide +kernel
theorem dX11_keep_31 : decode cX11_keep 31 = .ok (.iload_n 1, 1) := by decide +kernel
theorem dX11_keep_32 : decode cX11_keep 32 = .ok (.aload_n 0, 1) := by decide +kernel
theorem dX11_keep_33 : decode cX11_keep 33 = .ok (.getfield 19, 3) := by decide +kernel
theorem dX11_keep_36 : decode cX11_keep 36 = .ok (.getfield 179, 3) := by decide +kernel
theorem dX11_keep_39 : decode cX11_keep 39 = .ok (.iastore, 1) := by decide +kernel
theorem dX11_keep_40 : decode cX11_keep 40 = .ok (.iconst 1, 1) := by decide +kernel
theorem dX11_keep_41 : decode cX11_keep 41 = .ok (.ireturn, 1) := by decide +kernel
def WX11_keep (E : ENV) (q0 : Nat) (q0_text : Nat) (q0_town : Nat) (q0_weather : Nat) (q0_rule : Nat) (q0_acts : Nat) (q0_real : Nat) (q0_trial : Nat) (q0_round : Nat) (q0_nights : Nat) (q0_before : Nat) (q0_history : Nat) (q0_kept : Nat) (q0_keptHouses : Nat) (q0_shortest : Nat) (q0_tracks : Nat) (q0_tally : Nat) (q0_told : Nat) (q0_kept_e0 : Nat) (q0_kept_e1 : Nat) (q0_real_state : Nat) (q0_real_owedBy : Nat) (q0_kept_e0_snow : Nat) (q0_kept_e0_path : Nat) (q0_kept_e0_debt : Nat) (q0_real_state_snow : Nat) (q0_real_state_path : Nat) (q0_real_state_debt : Nat) (q0_town_hold : Nat) (q0_town_below : Nat) (q0_town_hay : Nat) (q0_kept_e1_snow : Nat) (q0_kept_e1_path : Nat) (q0_kept_e1_debt : Nat) (i_toldCount : Int32) (i_real_owed : Int32) (i_real_slides : Int32) (i_real_struck : Int32) (i_real_slid : Int32) (h_kept_now : Nat → Int32) (i_real_state_now : Int32) (H_kept_snow : Nat → Nat → Int32) (H_kept_path : Nat → Nat → Int32) (H_kept_debt : Nat → Nat → Int32) (a_real_state_snow : Nat → Int32) (a_real_state_path : Nat → Int32) (a_real_state_debt : Nat → Int32) (i_town_houses : Int32) (a_keptHouses : Nat → Int32) : va_W := [(q0, .inr (11, [.ref q0_text, .ref q0_town, .ref q0_weather, .ref q0_rule, .ref q0_acts, .ref q0_real, .ref q0_trial, .ref q0_round, .ref q0_nights, .ref q0_before, .ref q0_history, .ref q0_kept, .ref q0_keptHouses, .ref q0_shortest, .ref q0_tracks, .ref q0_tally, .ref q0_told, .int i_toldCount])), (q0_kept, .inl (E.2.2.2.2.1, 2, .inr (.inr (.inr (.inr (fun k => ([q0_kept_e0, q0_kept_e1] : List Nat)[k]?)))))), (q0_real, .inr (9, [.ref q0_town, .ref q0_weather, .ref q0_rule, .ref q0_real_state, .ref q0_real_owedBy, .int i_real_owed, .int i_real_slides, .int i_real_struck, .int i_real_slid])), (q0_kept_e0, .inr (5, [.ref q0_kept_e0_snow, .ref q0_kept_e0_path, .ref q0_kept_e0_debt, .int (h_kept_now 0)])), (q0_real_state, .inr (5, [.ref q0_real_state_snow, .ref q0_real_state_path, .ref q0_real_state_debt, .int i_real_state_now])), (q0_kept_e0_snow, .inl (E.2.1, 14, .inl (H_kept_snow 0))), (q0_kept_e0_path, .inl (E.2.1, 7, .inl (H_kept_path 0))), (q0_kept_e0_debt, .inl (E.2.1, 49, .inl (H_kept_debt 0))), (q0_real_state_snow, .inl (E.2.1, 14, .inl a_real_state_snow)), (q0_real_state_path, .inl (E.2.1, 7, .inl a_real_state_path)), (q0_real_state_debt, .inl (E.2.1, 49, .inl a_real_state_debt)), (q0_town, .inr (7, [.ref q0_town_hold, .ref q0_town_below, .ref q0_town_hay, .int i_town_houses])), (q0_keptHouses, .inl (E.2.1, 2, .inl a_keptHouses)), (q0_kept_e1, .inr (5, [.ref q0_kept_e1_snow, .ref q0_kept_e1_path, .ref q0_kept_e1_debt, .int (h_kept_now 1)])), (q0_kept_e1_snow, .inl (E.2.1, 14, .inl (H_kept_snow 1))), (q0_kept_e1_path, .inl (E.2.1, 7, .inl (H_kept_path 1))), (q0_kept_e1_debt, .inl (E.2.1, 49, .inl (H_kept_debt 1)))]
set_option maxHeartbeats 4000000 in
set_option maxRecDepth 20000 in
theorem kX11_keep (l : Launch) (E : ENV) (q0 : Nat) (q0_text : Nat) (q0_town : Nat) (q0_weather : Nat) (q0_rule : Nat) (q0_acts : Nat) (q0_real : Nat) (q0_trial : Nat) (q0_round : Nat) (q0_nights : Nat) (q0_before : Nat) (q0_history : Nat) (q0_kept : Nat) (q0_keptHouses : Nat) (q0_shortest : Nat) (q0_tracks : Nat) (q0_tally : Nat) (q0_told : Nat) (q0_kept_e0 : Nat) (q0_kept_e1 : Nat) (q0_real_state : Nat) (q0_real_owedBy : Nat) (q0_kept_e0_snow : Nat) (q0_kept_e0_path : Nat) (q0_kept_e0_debt : Nat) (q0_real_state_snow : Nat) (q0_real_state_path : Nat) (q0_real_state_debt : Nat) (q0_town_hold : Nat) (q0_town_below : Nat) (q0_town_hay : Nat) (q0_kept_e1_snow : Nat) (q0_kept_e1_path : Nat) (q0_kept_e1_debt : Nat) (i_toldCount : Int32) (i_real_owed : Int32) (i_real_slides : Int32) (i_real_struck : Int32) (i_real_slid : Int32) (h_kept_now : Nat → Int32) (i_real_state_now : Int32) (H_kept_snow : Nat → Nat → Int32) (H_kept_path : Nat → Nat → Int32) (H_kept_debt : Nat → Nat → Int32) (a_real_state_snow : Nat → Int32) (a_real_state_path : Nat → Int32) (a_real_state_debt : Nat → Int32) (i_town_houses : Int32) (a_keptHouses : Nat → Int32) (p1 : Int32) (o9 : Int32 × (Nat → Int32) × (Nat → Nat → Int32) × (Nat → Nat → Int32) × (Nat → Nat → Int32) × (Nat → Int32)) (hf : fX11_keep h_kept_now i_real_state_now H_kept_snow H_kept_path H_kept_debt a_real_state_snow a_real_state_path a_real_state_debt i_town_houses a_keptHouses p1 = some o9) : CI l E yX11_keep cX11_keep 2 (some .boolean) 2 [.ref q0, .int p1] (WX11_keep E q0 q0_text q0_town q0_weather q0_rule q0_acts q0_real q0_trial q0_round q0_nights q0_before q0_history q0_kept q0_keptHouses q0_shortest q0_tracks q0_tally q0_told q0_kept_e0 q0_kept_e1 q0_real_state q0_real_owedBy q0_kept_e0_snow q0_kept_e0_path q0_kept_e0_debt q0_real_state_snow q0_real_state_path q0_real_state_debt q0_town_hold q0_town_below q0_town_hay q0_kept_e1_snow q0_kept_e1_path q0_kept_e1_debt i_toldCount i_real_owed i_real_slides i_real_struck i_real_slid h_kept_now i_real_state_now H_kept_snow H_kept_path H_kept_debt a_real_state_snow a_real_state_path a_real_state_debt i_town_houses a_keptHouses) (WX11_keep E q0 q0_text q0_town q0_weather q0_rule q0_acts q0_real q0_trial q0_round q0_nights q0_before q0_history q0_kept q0_keptHouses q0_shortest q0_tracks q0_tally q0_told q0_kept_e0 q0_kept_e1 q0_real_state q0_real_owedBy q0_kept_e0_snow q0_kept_e0_path q0_kept_e0_debt q0_real_state_snow q0_real_state_path q0_real_state_debt q0_town_hold q0_town_below q0_town_hay q0_kept_e1_snow q0_kept_e1_path q0_kept_e1_debt i_toldCount i_real_owed i_real_slides i_real_struck i_real_slid o9.2.1 i_real_state_now o9.2.2.1 o9.2.2.2.1 o9.2.2.2.2.1 a_real_state_snow a_real_state_path a_real_state_debt i_town_houses o9.2.2.2.2.2) o9.1 := by
  refine begI (by decide +kernel) (Nat.le_of_ble_eq_true rfl) ?_
  intro p e s m args below meth c A Q C hA hret
  have hx := C.1
  have hb := C.2.1
  intro H locs ls hl hP hD hS
  have hl : lv_has ls 2 [(0, .ref q0), (1, .int p1)] := hl
  unfold fX11_keep at hf
  refine lv_iload_n hx hb dX11_keep_0 rfl (lv_at hl 1 rfl) ?_
  refine lv_iconst (v := 0) hx hb dX11_keep_1 (by decide) ?_
  refine lv_iconst (v := 1) hx hb dX11_keep_2 (by decide) ?_
  obtain ⟨o1, hg2, hf9⟩ := bd_some hf
  replace hf := hf9
  clear hf9
  refine k_SI2 (As := [.int p1, .int 0, .int 1]) C K_RX11_128 (Nat.le_of_ble_eq_true rfl) (Nat.le_of_ble_eq_true rfl) (kX11_isWithin l E p1 0 1 o1 hg2) [] rfl rfl rfl  hP hD hS hA hl.1 (Nat.le_of_ble_eq_true rfl) rfl dX11_keep_3 (ws2 := (WX11_keep E q0 q0_text q0_town q0_weather q0_rule q0_acts q0_real q0_trial q0_round q0_nights q0_before q0_history q0_kept q0_keptHouses q0_shortest q0_tracks q0_tally q0_told q0_kept_e0 q0_kept_e1 q0_real_state q0_real_owedBy q0_kept_e0_snow q0_kept_e0_path q0_kept_e0_debt q0_real_state_snow q0_real_state_path q0_real_state_debt q0_town_hold q0_town_below q0_town_hay q0_kept_e1_snow q0_kept_e1_path q0_kept_e1_debt i_toldCount i_real_owed i_real_slides i_real_struck i_real_slid h_kept_now i_real_state_now H_kept_snow H_kept_path H_kept_debt a_real_state_snow a_real_state_path a_real_state_debt i_town_houses a_keptHouses)) 17 [0, 1, 2, 3, 4, 5, 6, 7, 8, 9, 10, 11, 12, 13, 14, 15, 16] rfl rfl rfl rfl (by decide +kernel) (fun H locs hP hD hS => ?_)
  refine lv_if_ne (tgt := 11) hx hb dX11_keep_6 (by decide) (fun c3 => ?_) (fun c3 => ?_)
  · rw [if_neg c3] at hf
    refine lv_aload_n hx hb dX11_keep_11 rfl (lv_at hl 0 rfl) ?_
    refine gf_RX11_80 C hP 0 rfl rfl dX11_keep_12 ?_
    refine lv_iload_n hx hb dX11_keep_15 rfl (lv_at hl 1 rfl) ?_
    by_cases c4 : p1 = 0
    · rw [if_pos c4] at hf
      subst c4
      refine r_ald C hP 1 3 rfl rfl (v := 0) rfl (k := 0) (by decide) (Nat.le_of_ble_eq_true rfl) rfl dX11_keep_16 ?_
      refine lv_aload_n hx hb dX11_keep_17 rfl (lv_at hl 0 rfl) ?_
      refine gf_RX11_49 C hP 0 rfl rfl dX11_keep_18 ?_
      refine gf_RX11_148 C hP 2 rfl rfl dX11_keep_21 ?_
      obtain ⟨o5, hg6, hf9⟩ := bd_some hf
      replace hf := hf9
      clear hf9
      refine k_VV2 (As := [.ref q0_real_state]) C K_RX11_274 (Nat.le_of_ble_eq_true rfl) (Nat.le_of_ble_eq_true rfl) (kX5_takeFrom l E q0_kept_e0 q0_kept_e0_snow q0_kept_e0_path q0_kept_e0_debt q0_real_state q0_real_state_snow q0_real_state_path q0_real_state_debt ((h_kept_now 0)) ((H_kept_snow 0)) ((H_kept_path 0)) ((H_kept_debt 0)) i_real_state_now a_real_state_snow a_real_state_path a_real_state_debt o5.1 o5.2.1 o5.2.2.1 o5.2.2.2 hg6) [3, 5, 6, 7, 4, 8, 9, 10] rfl rfl rfl (ci := 5) rfl rfl (q0 := 0) rfl hP hD hS hA hl.1 (Nat.le_of_ble_eq_true rfl) rfl dX11_keep_24 (ws2 := (WX11_keep E q0 q0_text q0_town q0_weather q0_rule q0_acts q0_real q0_trial q0_round q0_nights q0_before q0_history q0_kept q0_keptHouses q0_shortest q0_tracks q0_tally q0_told q0_kept_e0 q0_kept_e1 q0_real_state q0_real_owedBy q0_kept_e0_snow q0_kept_e0_path q0_kept_e0_debt q0_real_state_snow q0_real_state_path q0_real_state_debt q0_town_hold q0_town_below q0_town_hay q0_kept_e1_snow q0_kept_e1_path q0_kept_e1_debt i_toldCount i_real_owed i_real_slides i_real_struck i_real_slid ((va_up h_kept_now 0 o5.1)) i_real_state_now ((va_up H_kept_snow 0 o5.2.1)) ((va_up H_kept_path 0 o5.2.2.1)) ((va_up H_kept_debt 0 o5.2.2.2)) a_real_state_snow a_real_state_path a_real_state_debt i_town_houses a_keptHouses)) 17 [0, 1, 2, 11, 12, 13, 14, 15, 16] rfl rfl rfl rfl (by decide +kernel) (fun H locs hP hD hS => ?_)
      refine lv_aload_n hx hb dX11_keep_27 rfl (lv_at hl 0 rfl) ?_
      refine gf_RX11_84 C hP 0 rfl rfl dX11_keep_28 ?_
      refine lv_iload_n hx hb dX11_keep_31 rfl (lv_at hl 1 rfl) ?_
      refine lv_aload_n hx hb dX11_keep_32 rfl (lv_at hl 0 rfl) ?_
      refine gf_RX11_19 C hP 0 rfl rfl dX11_keep_33 ?_
      refine gf_RX11_179 C hP 11 rfl rfl dX11_keep_36 ?_
      obtain ⟨g7, hf9⟩ := gd_some hf
      replace hf := hf9
      clear hf9
      refine va_iast hx hb C.2.2.2.2.2.1 hP hD hS 12 0 rfl rfl (vin_in g7) dX11_keep_39 (fun H locs hP hD hS => ?_)
      have hP : va_P E.1 classes (WX11_keep E q0 q0_text q0_town q0_weather q0_rule q0_acts q0_real q0_trial q0_round q0_nights q0_before q0_history q0_kept q0_keptHouses q0_shortest q0_tracks q0_tally q0_told q0_kept_e0 q0_kept_e1 q0_real_state q0_real_owedBy q0_kept_e0_snow q0_kept_e0_path q0_kept_e0_debt q0_real_state_snow q0_real_state_path q0_real_state_debt q0_town_hold q0_town_below q0_town_hay q0_kept_e1_snow q0_kept_e1_path q0_kept_e1_debt i_toldCount i_real_owed i_real_slides i_real_struck i_real_slid ((va_up h_kept_now 0 o5.1)) i_real_state_now ((va_up H_kept_snow 0 o5.2.1)) ((va_up H_kept_path 0 o5.2.2.1)) ((va_up H_kept_debt 0 o5.2.2.2)) a_real_state_snow a_real_state_path a_real_state_debt i_town_houses ((upd a_keptHouses (0 : Int32).toNatClampNeg i_town_houses))) H := hP
      have hD : va_D A (WX11_keep E q0 q0_text q0_town q0_weather q0_rule q0_acts q0_real q0_trial q0_round q0_nights q0_before q0_history q0_kept q0_keptHouses q0_shortest q0_tracks q0_tally q0_told q0_kept_e0 q0_kept_e1 q0_real_state q0_real_owedBy q0_kept_e0_snow q0_kept_e0_path q0_kept_e0_debt q0_real_state_snow q0_real_state_path q0_real_state_debt q0_town_hold q0_town_below q0_town_hay q0_kept_e1_snow q0_kept_e1_path q0_kept_e1_debt i_toldCount i_real_owed i_real_slides i_real_struck i_real_slid ((va_up h_kept_now 0 o5.1)) i_real_state_now ((va_up H_kept_snow 0 o5.2.1)) ((va_up H_kept_path 0 o5.2.2.1)) ((va_up H_kept_debt 0 o5.2.2.2)) a_real_state_snow a_real_state_path a_real_state_debt i_town_houses ((upd a_keptHouses (0 : Int32).toNatClampNeg i_town_houses))) := hD
      refine lv_iconst (v := 1) hx hb dX11_keep_40 (by decide) ?_
      have hj0 := Option.some.inj hf
      subst hj0
      exact hret _ _ _ _ dX11_keep_41 (show narrow .boolean (.int (1 : Int32)) = .int (1 : Int32) from rfl) hP hD hS
    · rw [if_neg c4] at hf
      by_cases c8 : p1 = 1
      · rw [if_pos c8] at hf
        subst c8
        refine r_ald C hP 1 3 rfl rfl (v := 1) rfl (k := 1) (by decide) (Nat.le_of_ble_eq_true rfl) rfl dX11_keep_16 ?_
        refine lv_aload_n hx hb dX11_keep_17 rfl (lv_at hl 0 rfl) ?_
        refine gf_RX11_49 C hP 0 rfl rfl dX11_keep_18 ?_
        refine gf_RX11_148 C hP 2 rfl rfl dX11_keep_21 ?_
        obtain ⟨o9, hg10, hf9⟩ := bd_some hf
        replace hf := hf9
        clear hf9
        refine k_VV2 (As := [.ref q0_real_state]) C K_RX11_274 (Nat.le_of_ble_eq_true rfl) (Nat.le_of_ble_eq_true rfl) (kX5_takeFrom l E q0_kept_e1 q0_kept_e1_snow q0_kept_e1_path q0_kept_e1_debt q0_real_state q0_real_state_snow q0_real_state_path q0_real_state_debt ((h_kept_now 1)) ((H_kept_snow 1)) ((H_kept_path 1)) ((H_kept_debt 1)) i_real_state_now a_real_state_snow a_real_state_path a_real_state_debt o9.1 o9.2.1 o9.2.2.1 o9.2.2.2 hg10) [13, 14, 15, 16, 4, 8, 9, 10] rfl rfl rfl (ci := 5) rfl rfl (q0 := 0) rfl hP hD hS hA hl.1 (Nat.le_of_ble_eq_true rfl) rfl dX11_keep_24 (ws2 := (WX11_keep E q0 q0_text q0_town q0_weather q0_rule q0_acts q0_real q0_trial q0_round q0_nights q0_before q0_history q0_kept q0_keptHouses q0_shortest q0_tracks q0_tally q0_told q0_kept_e0 q0_kept_e1 q0_real_state q0_real_owedBy q0_kept_e0_snow q0_kept_e0_path q0_kept_e0_debt q0_real_state_snow q0_real_state_path q0_real_state_debt q0_town_hold q0_town_below q0_town_hay q0_kept_e1_snow q0_kept_e1_path q0_kept_e1_debt i_toldCount i_real_owed i_real_slides i_real_struck i_real_slid ((va_up h_kept_now 1 o9.1)) i_real_state_now ((va_up H_kept_snow 1 o9.2.1)) ((va_up H_kept_path 1 o9.2.2.1)) ((va_up H_kept_debt 1 o9.2.2.2)) a_real_state_snow a_real_state_path a_real_state_debt i_town_houses a_keptHouses)) 17 [0, 1, 2, 3, 5, 6, 7, 11, 12] rfl rfl rfl rfl (by decide +kernel) (fun H locs hP hD hS => ?_)
        refine lv_aload_n hx hb dX11_keep_27 rfl (lv_at hl 0 rfl) ?_
        refine gf_RX11_84 C hP 0 rfl rfl dX11_keep_28 ?_
        refine lv_iload_n hx hb dX11_keep_31 rfl (lv_at hl 1 rfl) ?_
        refine lv_aload_n hx hb dX11_keep_32 rfl (lv_at hl 0 rfl) ?_
        refine gf_RX11_19 C hP 0 rfl rfl dX11_keep_33 ?_
        refine gf_RX11_179 C hP 11 rfl rfl dX11_keep_36 ?_
        obtain ⟨g11, hf9⟩ := gd_some hf
        replace hf := hf9
        clear hf9
        refine va_iast hx hb C.2.2.2.2.2.1 hP hD hS 12 0 rfl rfl (vin_in g11) dX11_keep_39 (fun H locs hP hD hS => ?_)
        have hP : va_P E.1 classes (WX11_keep E q0 q0_text q0_town q0_weather q0_rule q0_acts q0_real q0_trial q0_round q0_nights q0_before q0_history q0_kept q0_keptHouses q0_shortest q0_tracks q0_tally q0_told q0_kept_e0 q0_kept_e1 q0_real_state q0_real_owedBy q0_kept_e0_snow q0_kept_e0_path q0_kept_e0_debt q0_real_state_snow q0_real_state_path q0_real_state_debt q0_town_hold q0_town_below q0_town_hay q0_kept_e1_snow q0_kept_e1_path q0_kept_e1_debt i_toldCount i_real_owed i_real_slides i_real_struck i_real_slid ((va_up h_kept_now 1 o9.1)) i_real_state_now ((va_up H_kept_snow 1 o9.2.1)) ((va_up H_kept_path 1 o9.2.2.1)) ((va_up H_kept_debt 1 o9.2.2.2)) a_real_state_snow a_real_state_path a_real_state_debt i_town_houses ((upd a_keptHouses (1 : Int32).toNatClampNeg i_town_houses))) H := hP
        have hD : va_D A (WX11_keep E q0 q0_text q0_town q0_weather q0_rule q0_acts q0_real q0_trial q0_round q0_nights q0_before q0_history q0_kept q0_keptHouses q0_shortest q0_tracks q0_tally q0_told q0_kept_e0 q0_kept_e1 q0_real_state q0_real_owedBy q0_kept_e0_snow q0_kept_e0_path q0_kept_e0_debt q0_real_state_snow q0_real_state_path q0_real_state_debt q0_town_hold q0_town_below q0_town_hay q0_kept_e1_snow q0_kept_e1_path q0_kept_e1_debt i_toldCount i_real_owed i_real_slides i_real_struck i_real_slid ((va_up h_kept_now 1 o9.1)) i_real_state_now ((va_up H_kept_snow 1 o9.2.1)) ((va_up H_kept_path 1 o9.2.2.1)) ((va_up H_kept_debt 1 o9.2.2.2)) a_real_state_snow a_real_state_path a_real_state_debt i_town_houses ((upd a_keptHouses (1 : Int32).toNatClampNeg i_town_houses))) := hD
        refine lv_iconst (v := 1) hx hb dX11_keep_40 (by decide) ?_
        have hj0 := Option.some.inj hf
        subst hj0
        exact hret _ _ _ _ dX11_keep_41 (show narrow .boolean (.int (1 : Int32)) = .int (1 : Int32) from rfl) hP hD hS
      · rw [if_neg c8] at hf
        cases hf
  · rw [if_pos c3] at hf
    refine lv_iconst (v := 0) hx hb dX11_keep_9 (by decide) ?_
    have hj0 := Option.some.inj hf
    subst hj0
    exact hret _ _ _ _ dX11_keep_10 (show narrow .boolean (.int (0 : Int32)) = .int (0 : Int32) from rfl) hP hD hS
theorem dX11_again_0 : decode cX11_again 0 = .ok (.iload_n 1, 1) := by decide +kernel
theorem dX11_again_1 : decode cX11_again 1 = .ok (.iconst 0, 1) := by decide +kernel
theorem dX11_again_2 : decode cX11_again 2 = .ok (.iconst 1, 1) := by decide +kernel
theorem dX11_again_3 : decode cX11_again 3 = .ok (.invokestatic 128, 3) := by decide +kernel
theorem dX11_again_6 : decode cX11_again 6 = .ok (.ifCond .eq 19, 3) := by decide +kernel
theorem dX11_again_9 : decode cX11_again 9 = .ok (.aload_n 0, 1) := by decide +kernel
theorem dX11_again_10 : decode cX11_again 10 = .ok (.getfield 84, 3) := by decide +kernel
theorem dX11_again_13 : decode cX11_again 13 = .ok (.iload_n 1, 1) := by decide +kernel
theorem dX11_again_14 : decode cX11_again 14 = .ok (.iaload, 1) := by decide +kernel
theorem dX11_again_15 : decode cX11_again 15 = .ok (.aload_n 0, 1) := by decide +kernel
theorem dX11_again_16 : decode cX11_again 16 = .ok (.getfield 19, 3) := by decide +kernel
theorem dX11_again_19 : decode cX11_again 19 = .ok (.getfield 179, 3) := by decide +kernel
theorem dX11_again_22 : decode cX11_again 22 = .ok (.if_icmp .eq 5, 3) := by decide +kernel
theorem dX11_again_25 : decode cX11_again 25 = .ok (.iconst 0, 1) := by decide +kernel
theorem dX11_again_26 : decode cX11_again 26 = .ok (.ireturn, 1) := by decide +kernel
theorem dX11_again_27 : decode cX11_again 27 = .ok (.aload_n 0, 1) := by decide +kernel
theorem dX11_again_28 : decode cX11_again 28 = .ok (.getfield 49, 3) := by decide +kernel
theorem dX11_again_31 : decode cX11_again 31 = .ok (.getfield 148, 3) := by decide +kernel
theorem dX11_again_34 : decode cX11_again 34 = .ok (.aload_n 0, 1) := by decide +kernel
theorem dX11_again_35 : decode cX11_again 35 = .ok (.getfield 80, 3) := by decide +kernel
theorem dX11_again_38 : decode cX11_again 38 = .ok (.iload_n 1, 1) := by decide +kernel
theorem dX11_again_39 : decode cX11_again 39 = .ok (.aaload, 1) := by decide +kernel
theorem dX11_again_40 : decode cX11_again 40 = .ok (.invokevirtual 274, 3) := by decide +kernel
theorem dX11_again_43 : decode cX11_again 43 = .ok (.aload_n 0, 1) := by decide +kernel
theorem dX11_again_44 : decode cX11_again 44 = .ok (.getfield 76, 3) := by decide +kernel
theorem dX11_again_47 : decode cX11_again 47 = .ok (.invokevirtual 123, 3) := by decide +kernel
theorem dX11_again_50 : decode cX11_again 50 = .ok (.iconst 1, 1) := by decide +kernel
theorem dX11_again_51 : decode cX11_again 51 = .ok (.ireturn, 1) := by decide +kernel
def WX11_again (E : ENV) (q0 : Nat) (q0_text : Nat) (q0_town : Nat) (q0_weather : Nat) (q0_rule : Nat) (q0_acts : Nat) (q0_real : Nat) (q0_trial : Nat) (q0_round : Nat) (q0_nights : Nat) (q0_before : Nat) (q0_history : Nat) (q0_kept : Nat) (q0_keptHouses : Nat) (q0_shortest : Nat) (q0_tracks : Nat) (q0_tally : Nat) (q0_told : Nat) (q0_town_hold : Nat) (q0_town_below : Nat) (q0_town_hay : Nat) (q0_real_state : Nat) (q0_real_owedBy : Nat) (q0_kept_e0 : Nat) (q0_kept_e1 : Nat) (q0_real_state_snow : Nat) (q0_real_state_path : Nat) (q0_real_state_debt : Nat) (q0_kept_e0_snow : Nat) (q0_kept_e0_path : Nat) (q0_kept_e0_debt : Nat) (q0_history_states : Nat) (q0_kept_e1_snow : Nat) (q0_kept_e1_path : Nat) (q0_kept_e1_debt : Nat) (i_toldCount : Int32) (a_keptHouses : Nat → Int32) (i_town_houses : Int32) (i_real_owed : Int32) (i_real_slides : Int32) (i_real_struck : Int32) (i_real_slid : Int32) (i_real_state_now : Int32) (h_kept_now : Nat → Int32) (a_real_state_snow : Nat → Int32) (a_real_state_path : Nat → Int32) (a_real_state_debt : Nat → Int32) (H_kept_snow : Nat → Nat → Int32) (H_kept_path : Nat → Nat → Int32) (H_kept_debt : Nat → Nat → Int32) (i_history_size : Int32) (i_history_next : Int32) : va_W := [(q0, .inr (11, [.ref q0_text, .ref q0_town, .ref q0_weather, .ref q0_rule, .ref q0_acts, .ref q0_real, .ref q0_trial, .ref q0_round, .ref q0_nights, .ref q0_before, .ref q0_history, .ref q0_kept, .ref q0_keptHouses, .ref q0_shortest, .ref q0_tracks, .ref q0_tally, .ref q0_told, .int i_toldCount])), (q0_keptHouses, .inl (E.2.1, 2, .inl a_keptHouses)), (q0_town, .inr (7, [.ref q0_town_hold, .ref q0_town_below, .ref q0_town_hay, .int i_town_houses])), (q0_real, .inr (9, [.ref q0_town, .ref q0_weather, .ref q0_rule, .ref q0_real_state, .ref q0_real_owedBy, .int i_real_owed, .int i_real_slides, .int i_real_struck, .int i_real_slid])), (q0_kept, .inl (E.2.2.2.2.1, 2, .inr (.inr (.inr (.inr (fun k => ([q0_kept_e0, q0_kept_e1] : List Nat)[k]?)))))), (q0_real_state, .inr (5, [.ref q0_real_state_snow, .ref q0_real_state_path, .ref q0_real_state_debt, .int i_real_state_now])), (q0_kept_e0, .inr (5, [.ref q0_kept_e0_snow, .ref q0_kept_e0_path, .ref q0_kept_e0_debt, .int (h_kept_now 0)])), (q0_real_state_snow, .inl (E.2.1, 14, .inl a_real_state_snow)), (q0_real_state_path, .inl (E.2.1, 7, .inl a_real_state_path)), (q0_real_state_debt, .inl (E.2.1, 49, .inl a_real_state_debt)), (q0_kept_e0_snow, .inl (E.2.1, 14, .inl (H_kept_snow 0))), (q0_kept_e0_path, .inl (E.2.1, 7, .inl (H_kept_path 0))), (q0_kept_e0_debt, .inl (E.2.1, 49, .inl (H_kept_debt 0))), (q0_history, .inr (2, [.ref q0_history_states, .int i_history_size, .int i_history_next])), (q0_kept_e1, .inr (5, [.ref q0_kept_e1_snow, .ref q0_kept_e1_path, .ref q0_kept_e1_debt, .int (h_kept_now 1)])), (q0_kept_e1_snow, .inl (E.2.1, 14, .inl (H_kept_snow 1))), (q0_kept_e1_path, .inl (E.2.1, 7, .inl (H_kept_path 1))), (q0_kept_e1_debt, .inl (E.2.1, 49, .inl (H_kept_debt 1)))]
set_option maxHeartbeats 4000000 in
set_option maxRecDepth 20000 in
theorem kX11_again (l : Launch) (E : ENV) (q0 : Nat) (q0_text : Nat) (q0_town : Nat) (q0_weather : Nat) (q0_rule : Nat) (q0_acts : Nat) (q0_real : Nat) (q0_trial : Nat) (q0_round : Nat) (q0_nights : Nat) (q0_before : Nat) (q0_history : Nat) (q0_kept : Nat) (q0_keptHouses : Nat) (q0_shortest : Nat) (q0_tracks : Nat) (q0_tally : Nat) (q0_told : Nat) (q0_town_hold : Nat) (q0_town_below : Nat) (q0_town_hay : Nat) (q0_real_state : Nat) (q0_real_owedBy : Nat) (q0_kept_e0 : Nat) (q0_kept_e1 : Nat) (q0_real_state_snow : Nat) (q0_real_state_path : Nat) (q0_real_state_debt : Nat) (q0_kept_e0_snow : Nat) (q0_kept_e0_path : Nat) (q0_kept_e0_debt : Nat) (q0_history_states : Nat) (q0_kept_e1_snow : Nat) (q0_kept_e1_path : Nat) (q0_kept_e1_debt : Nat) (i_toldCount : Int32) (a_keptHouses : Nat → Int32) (i_town_houses : Int32) (i_real_owed : Int32) (i_real_slides : Int32) (i_real_struck : Int32) (i_real_slid : Int32) (i_real_state_now : Int32) (h_kept_now : Nat → Int32) (a_real_state_snow : Nat → Int32) (a_real_state_path : Nat → Int32) (a_real_state_debt : Nat → Int32) (H_kept_snow : Nat → Nat → Int32) (H_kept_path : Nat → Nat → Int32) (H_kept_debt : Nat → Nat → Int32) (i_history_size : Int32) (i_history_next : Int32) (p1 : Int32) (o9 : Int32 × Int32 × (Nat → Int32) × (Nat → Int32) × (Nat → Int32) × Int32) (hf : fX11_again a_keptHouses i_town_houses i_real_state_now h_kept_now a_real_state_snow a_real_state_path a_real_state_debt H_kept_snow H_kept_path H_kept_debt i_history_size p1 = some o9) : CI l E yX11_again cX11_again 2 (some .boolean) 2 [.ref q0, .int p1] (WX11_again E q0 q0_text q0_town q0_weather q0_rule q0_acts q0_real q0_trial q0_round q0_nights q0_before q0_history q0_kept q0_keptHouses q0_shortest q0_tracks q0_tally q0_told q0_town_hold q0_town_below q0_town_hay q0_real_state q0_real_owedBy q0_kept_e0 q0_kept_e1 q0_real_state_snow q0_real_state_path q0_real_state_debt q0_kept_e0_snow q0_kept_e0_path q0_kept_e0_debt q0_history_states q0_kept_e1_snow q0_kept_e1_path q0_kept_e1_debt i_toldCount a_keptHouses i_town_houses i_real_owed i_real_slides i_real_struck i_real_slid i_real_state_now h_kept_now a_real_state_snow a_real_state_path a_real_state_debt H_kept_snow H_kept_path H_kept_debt i_history_size i_history_next) (WX11_again E q0 q0_text q0_town q0_weather q0_rule q0_acts q0_real q0_trial q0_round q0_nights q0_before q0_history q0_kept q0_keptHouses q0_shortest q0_tracks q0_tally q0_told q0_town_hold q0_town_below q0_town_hay q0_real_state q0_real_owedBy q0_kept_e0 q0_kept_e1 q0_real_state_snow q0_real_state_path q0_real_state_debt q0_kept_e0_snow q0_kept_e0_path q0_kept_e0_debt q0_history_states q0_kept_e1_snow q0_kept_e1_path q0_kept_e1_debt i_toldCount a_keptHouses i_town_houses i_real_owed i_real_slides i_real_struck i_real_slid o9.2.1 h_kept_now o9.2.2.1 o9.2.2.2.1 o9.2.2.2.2.1 H_kept_snow H_kept_path H_kept_debt o9.2.2.2.2.2 i_history_next) o9.1 := by
  refine begI (by decide +kernel) (Nat.le_of_ble_eq_true rfl) ?_
  intro p e s m args below meth c A Q C hA hret
  have hx := C.1
  have hb := C.2.1
  intro H locs ls hl hP hD hS
  have hl : lv_has ls 2 [(0, .ref q0), (1, .int p1)] := hl
  unfold fX11_again at hf
  refine lv_iload_n hx hb dX11_again_0 rfl (lv_at hl 1 rfl) ?_
  refine lv_iconst (v := 0) hx hb dX11_again_1 (by decide) ?_
  refine lv_iconst (v := 1) hx hb dX11_again_2 (by decide) ?_
  obtain ⟨o1, hg2, hf9⟩ := bd_some hf
  replace hf := hf9
  clear hf9
  refine k_SI2 (As := [.int p1, .int 0, .int 1]) C K_RX11_128 (Nat.le_of_ble_eq_true rfl) (Nat.le_of_ble_eq_true rfl) (kX11_isWithin l E p1 0 1 o1 hg2) [] rfl rfl rfl  hP hD hS hA hl.1 (Nat.le_of_ble_eq_true rfl) rfl dX11_again_3 (ws2 := (WX11_again E q0 q0_text q0_town q0_weather q0_rule q0_acts q0_real q0_trial q0_round q0_nights q0_before q0_history q0_kept q0_keptHouses q0_shortest q0_tracks q0_tally q0_told q0_town_hold q0_town_below q0_town_hay q0_real_state q0_real_owedBy q0_kept_e0 q0_kept_e1 q0_real_state_snow q0_real_state_path q0_real_state_debt q0_kept_e0_snow q0_kept_e0_path q0_kept_e0_debt q0_history_states q0_kept_e1_snow q0_kept_e1_path q0_kept_e1_debt i_toldCount a_keptHouses i_town_houses i_real_owed i_real_slides i_real_struck i_real_slid i_real_state_now h_kept_now a_real_state_snow a_real_state_path a_real_state_debt H_kept_snow H_kept_path H_kept_debt i_history_size i_history_next)) 18 [0, 1, 2, 3, 4, 5, 6, 7, 8, 9, 10, 11, 12, 13, 14, 15, 16, 17] rfl rfl rfl rfl (by decide +kernel) (fun H locs hP hD hS => ?_)
  refine lv_if_eq (tgt := 25) hx hb dX11_again_6 (by decide) (fun c3 => ?_) (fun c3 => ?_)
  · rw [if_pos c3] at hf
    refine lv_iconst (v := 0) hx hb dX11_again_25 (by decide) ?_
    have hj0 := Option.some.inj hf
    subst hj0
    exact hret _ _ _ _ dX11_again_26 (show narrow .boolean (.int (0 : Int32)) = .int (0 : Int32) from rfl) hP hD hS
  · rw [if_neg c3] at hf
    refine lv_aload_n hx hb dX11_again_9 rfl (lv_at hl 0 rfl) ?_
    refine gf_RX11_84 C hP 0 rfl rfl dX11_again_10 ?_
    refine lv_iload_n hx hb dX11_again_13 rfl (lv_at hl 1 rfl) ?_
    obtain ⟨g4, hf9⟩ := gd_some hf
    replace hf := hf9
    clear hf9
    refine va_iald hx hb C.2.2.2.2.2.1 hP 1 0 rfl rfl (vin_in g4) dX11_again_14 ?_
    refine lv_aload_n hx hb dX11_again_15 rfl (lv_at hl 0 rfl) ?_
    refine gf_RX11_19 C hP 0 rfl rfl dX11_again_16 ?_
    refine gf_RX11_179 C hP 2 rfl rfl dX11_again_19 ?_
    refine lv_icmp_eq (tgt := 27) hx hb dX11_again_22 (by decide) (fun c5 => ?_) (fun c5 => ?_)
    · rw [if_pos c5] at hf
      refine lv_aload_n hx hb dX11_again_27 rfl (lv_at hl 0 rfl) ?_
      refine gf_RX11_49 C hP 0 rfl rfl dX11_again_28 ?_
      refine gf_RX11_148 C hP 3 rfl rfl dX11_again_31 ?_
      refine lv_aload_n hx hb dX11_again_34 rfl (lv_at hl 0 rfl) ?_
      refine gf_RX11_80 C hP 0 rfl rfl dX11_again_35 ?_
      refine lv_iload_n hx hb dX11_again_38 rfl (lv_at hl 1 rfl) ?_
      by_cases c6 : p1 = 0
      · rw [if_pos c6] at hf
        subst c6
        refine r_ald C hP 4 3 rfl rfl (v := 0) rfl (k := 0) (by decide) (Nat.le_of_ble_eq_true rfl) rfl dX11_again_39 ?_
        obtain ⟨o7, hg8, hf9⟩ := bd_some hf
        replace hf := hf9
        clear hf9
        refine k_VV2 (As := [.ref q0_kept_e0]) C K_RX11_274 (Nat.le_of_ble_eq_true rfl) (Nat.le_of_ble_eq_true rfl) (kX5_takeFrom l E q0_real_state q0_real_state_snow q0_real_state_path q0_real_state_debt q0_kept_e0 q0_kept_e0_snow q0_kept_e0_path q0_kept_e0_debt i_real_state_now a_real_state_snow a_real_state_path a_real_state_debt ((h_kept_now 0)) ((H_kept_snow 0)) ((H_kept_path 0)) ((H_kept_debt 0)) o7.1 o7.2.1 o7.2.2.1 o7.2.2.2 hg8) [5, 7, 8, 9, 6, 10, 11, 12] rfl rfl rfl (ci := 5) rfl rfl (q0 := 0) rfl hP hD hS hA hl.1 (Nat.le_of_ble_eq_true rfl) rfl dX11_again_40 (ws2 := (WX11_again E q0 q0_text q0_town q0_weather q0_rule q0_acts q0_real q0_trial q0_round q0_nights q0_before q0_history q0_kept q0_keptHouses q0_shortest q0_tracks q0_tally q0_told q0_town_hold q0_town_below q0_town_hay q0_real_state q0_real_owedBy q0_kept_e0 q0_kept_e1 q0_real_state_snow q0_real_state_path q0_real_state_debt q0_kept_e0_snow q0_kept_e0_path q0_kept_e0_debt q0_history_states q0_kept_e1_snow q0_kept_e1_path q0_kept_e1_debt i_toldCount a_keptHouses i_town_houses i_real_owed i_real_slides i_real_struck i_real_slid o7.1 h_kept_now o7.2.1 o7.2.2.1 o7.2.2.2 H_kept_snow H_kept_path H_kept_debt i_history_size i_history_next)) 18 [0, 1, 2, 3, 4, 13, 14, 15, 16, 17] rfl rfl rfl rfl (by decide +kernel) (fun H locs hP hD hS => ?_)
        refine lv_aload_n hx hb dX11_again_43 rfl (lv_at hl 0 rfl) ?_
        refine gf_RX11_76 C hP 0 rfl rfl dX11_again_44 ?_
        obtain ⟨o9, hg10, hf9⟩ := bd_some hf
        replace hf := hf9
        clear hf9
        refine k_VV2 (As := []) C K_RX11_123 (Nat.le_of_ble_eq_true rfl) (Nat.le_of_ble_eq_true rfl) (kX2_forget l E q0_history q0_history_states i_history_size i_history_next o9 hg10) [13] rfl rfl rfl (ci := 2) rfl rfl (q0 := 0) rfl hP hD hS hA hl.1 (Nat.le_of_ble_eq_true rfl) rfl dX11_again_47 (ws2 := (WX11_again E q0 q0_text q0_town q0_weather q0_rule q0_acts q0_real q0_trial q0_round q0_nights q0_before q0_history q0_kept q0_keptHouses q0_shortest q0_tracks q0_tally q0_told q0_town_hold q0_town_below q0_town_hay q0_real_state q0_real_owedBy q0_kept_e0 q0_kept_e1 q0_real_state_snow q0_real_state_path q0_real_state_debt q0_kept_e0_snow q0_kept_e0_path q0_kept_e0_debt q0_history_states q0_kept_e1_snow q0_kept_e1_path q0_kept_e1_debt i_toldCount a_keptHouses i_town_houses i_real_owed i_real_slides i_real_struck i_real_slid o7.1 h_kept_now o7.2.1 o7.2.2.1 o7.2.2.2 H_kept_snow H_kept_path H_kept_debt o9 i_history_next)) 18 [0, 1, 2, 3, 4, 5, 6, 7, 8, 9, 10, 11, 12, 14, 15, 16, 17] rfl rfl rfl rfl (by decide +kernel) (fun H locs hP hD hS => ?_)
        refine lv_iconst (v := 1) hx hb dX11_again_50 (by decide) ?_
        have hj0 := Option.some.inj hf
        subst hj0
        exact hret _ _ _ _ dX11_again_51 (show narrow .boolean (.int (1 : Int32)) = .int (1 : Int32) from rfl) hP hD hS
      · rw [if_neg c6] at hf
        by_cases c11 : p1 = 1
        · rw [if_pos c11] at hf
          subst c11
          refine r_ald C hP 4 3 rfl rfl (v := 1) rfl (k := 1) (by decide) (Nat.le_of_ble_eq_true rfl) rfl dX11_again_39 ?_
          obtain ⟨o12, hg13, hf9⟩ := bd_some hf
          replace hf := hf9
          clear hf9
          refine k_VV2 (As := [.ref q0_kept_e1]) C K_RX11_274 (Nat.le_of_ble_eq_true rfl) (Nat.le_of_ble_eq_true rfl) (kX5_takeFrom l E q0_real_state q0_real_state_snow q0_real_state_path q0_real_state_debt q0_kept_e1 q0_kept_e1_snow q0_kept_e1_path q0_kept_e1_debt i_real_state_now a_real_state_snow a_real_state_path a_real_state_debt ((h_kept_now 1)) ((H_kept_snow 1)) ((H_kept_path 1)) ((H_kept_debt 1)) o12.1 o12.2.1 o12.2.2.1 o12.2.2.2 hg13) [5, 7, 8, 9, 14, 15, 16, 17] rfl rfl rfl (ci := 5) rfl rfl (q0 := 0) rfl hP hD hS hA hl.1 (Nat.le_of_ble_eq_true rfl) rfl dX11_again_40 (ws2 := (WX11_again E q0 q0_text q0_town q0_weather q0_rule q0_acts q0_real q0_trial q0_round q0_nights q0_before q0_history q0_kept q0_keptHouses q0_shortest q0_tracks q0_tally q0_told q0_town_hold q0_town_below q0_town_hay q0_real_state q0_real_owedBy q0_kept_e0 q0_kept_e1 q0_real_state_snow q0_real_state_path q0_real_state_debt q0_kept_e0_snow q0_kept_e0_path q0_kept_e0_debt q0_history_states q0_kept_e1_snow q0_kept_e1_path q0_kept_e1_debt i_toldCount a_keptHouses i_town_houses i_real_owed i_real_slides i_real_struck i_real_slid o12.1 h_kept_now o12.2.1 o12.2.2.1 o12.2.2.2 H_kept_snow H_kept_path H_kept_debt i_history_size i_history_next)) 18 [0, 1, 2, 3, 4, 6, 10, 11, 12, 13] rfl rfl rfl rfl (by decide +kernel) (fun H locs hP hD hS => ?_)
          refine lv_aload_n hx hb dX11_again_43 rfl (lv_at hl 0 rfl) ?_
          refine gf_RX11_76 C hP 0 rfl rfl dX11_again_44 ?_
          obtain ⟨o14, hg15, hf9⟩ := bd_some hf
          replace hf := hf9
          clear hf9
          refine k_VV2 (As := []) C K_RX11_123 (Nat.le_of_ble_eq_true rfl) (Nat.le_of_ble_eq_true rfl) (kX2_forget l E q0_history q0_history_states i_history_size i_history_next o14 hg15) [13] rfl rfl rfl (ci := 2) rfl rfl (q0 := 0) rfl hP hD hS hA hl.1 (Nat.le_of_ble_eq_true rfl) rfl dX11_again_47 (ws2 := (WX11_again E q0 q0_text q0_town q0_weather q0_rule q0_acts q0_real q0_trial q0_round q0_nights q0_before q0_history q0_kept q0_keptHouses q0_shortest q0_tracks q0_tally q0_told q0_town_hold q0_town_below q0_town_hay q0_real_state q0_real_owedBy q0_kept_e0 q0_kept_e1 q0_real_state_snow q0_real_state_path q0_real_state_debt q0_kept_e0_snow q0_kept_e0_path q0_kept_e0_debt q0_history_states q0_kept_e1_snow q0_kept_e1_path q0_kept_e1_debt i_toldCount a_keptHouses i_town_houses i_real_owed i_real_slides i_real_struck i_real_slid o12.1 h_kept_now o12.2.1 o12.2.2.1 o12.2.2.2 H_kept_snow H_kept_path H_kept_debt o14 i_history_next)) 18 [0, 1, 2, 3, 4, 5, 6, 7, 8, 9, 10, 11, 12, 14, 15, 16, 17] rfl rfl rfl rfl (by decide +kernel) (fun H locs hP hD hS => ?_)
          refine lv_iconst (v := 1) hx hb dX11_again_50 (by decide) ?_
          have hj0 := Option.some.inj hf
          subst hj0
          exact hret _ _ _ _ dX11_again_51 (show narrow .boolean (.int (1 : Int32)) = .int (1 : Int32) from rfl) hP hD hS
        · rw [if_neg c11] at hf
          cases hf
    · rw [if_neg c5] at hf
      refine lv_iconst (v := 0) hx hb dX11_again_25 (by decide) ?_
      have hj0 := Option.some.inj hf
      subst hj0
      exact hret _ _ _ _ dX11_again_26 (show narrow .boolean (.int (0 : Int32)) = .int (0 : Int32) from rfl) hP hD hS
theorem q261 : Cond.fieldLinkNest RX11 408 "SnowForSummer$State" "now" "I" "SnowForSummer" ∈ NL := NL_mem 261 (by decide +kernel) (by decide +kernel)
theorem gf_RX11_408 {p : Program} {l : Launch} {e : Env} {R : Room} {s : State} {m : MethodId} {args : Array Value} {below : List Frame} {meth : Method} {c : Code} {H : Heap} {locs : List Loc} {cells slots : Nat} {Q : State → Prop} {E : ENV} {cc : ByteArray} {n : Nat} {r : Option FieldType} {pc : Nat} {ls : Array Slot} {rest : List Value} {a : Nat} {ws : va_W} {nm ds : String} {fs : List Value} {A : Nat → Prop} {v : Value} (C : Cx E A ⟨RX11, nm, ds⟩ cc n r p s m args meth c) (hP : va_P E.1 classes ws H) (q0 : Nat) (he : ws[q0]? = some (a, .inr (5, fs))) (hv : fs[3]? = some v) (hdg : decode cc pc = .ok (.getfield 408, 3))
    (kk : W p l e R s m args below meth c H locs cells slots Q (F0 m (pc + 3) ls (v :: rest))) : W p l e R s m args below meth c H locs cells slots Q (F0 m pc ls (.ref a :: rest)) :=
  va_getN (C := RX5) (T := TX5) (N := 4) (Ts := wl ⟨RX11, nm, ds⟩ cc n r) C.1 C.2.1 C.2.2.2.2.1 (fun w h => List.mem_cons_of_mem _ (inT5 w h)) C.2.2.2.1 C.2.2.2.2.2.1 hP q0 he rfl 3 (by decide) (va_Nw.use rfl (C.2.2.2.2.2.2.2.2.1 _ q261)) (fun _ h9 => h9) hv hdg kk
theorem q179 : Cond.fieldLinkNest RX11 411 "SnowForSummer$Weather" "length" "I" "SnowForSummer" ∈ NL := NL_mem 179 (by decide +kernel) (by decide +kernel)
theorem gf_RX11_411 {p : Program} {l : Launch} {e : Env} {R : Room} {s : State} {m : MethodId} {args : Array Value} {below : List Frame} {meth : Method} {c : Code} {H : Heap} {locs : List Loc} {cells slots : Nat} {Q : State → Prop} {E : ENV} {cc : ByteArray} {n : Nat} {r : Option FieldType} {pc : Nat} {ls : Array Slot} {rest : List Value} {a : Nat} {ws : va_W} {nm ds : String} {fs : List Value} {A : Nat → Prop} {v : Value} (C : Cx E A ⟨RX11, nm, ds⟩ cc n r p s m args meth c) (hP : va_P E.1 classes ws H) (q0 : Nat) (he : ws[q0]? = some (a, .inr (10, fs))) (hv : fs[1]? = some v) (hdg : decode cc pc = .ok (.getfield 411, 3))
    (kk : W p l e R s m args below meth c H locs cells slots Q (F0 m (pc + 3) ls (v :: rest))) : W p l e R s m args below meth c H locs cells slots Q (F0 m pc ls (.ref a :: rest)) :=
  va_getN (C := RX10) (T := TX10) (N := 3) (Ts := wl ⟨RX11, nm, ds⟩ cc n r) C.1 C.2.1 C.2.2.2.2.1 (fun w h => List.mem_cons_of_mem _ (inT10 w h)) C.2.2.2.1 C.2.2.2.2.2.1 hP q0 he rfl 1 (by decide) (va_Nw.use rfl (C.2.2.2.2.2.2.2.2.1 _ q179)) (fun _ h9 => h9) hv hdg kk
theorem q396 : Cond.fieldLinkNest RX11 414 "SnowForSummer$Tracks" "size" "I" "SnowForSummer" ∈ NL := NL_mem 396 (by decide +kernel) (by decide +kernel)
theorem gf_RX11_414 {p : Program} {l : Launch} {e : Env} {R : Room} {s : State} {m : MethodId} {args : Array Value} {below : List Frame} {meth : Method} {c : Code} {H : Heap} {locs : List Loc} {cells slots : Nat} {Q : State → Prop} {E : ENV} {cc : ByteArray} {n : Nat} {r : Option FieldType} {pc : Nat} {ls : Array Slot} {rest : List Value} {a : Nat} {ws : va_W} {nm ds : String} {fs : List Value} {A : Nat → Prop} {v : Value} (C : Cx E A ⟨RX11, nm, ds⟩ cc n r p s m args meth c) (hP : va_P E.1 classes ws H) (q0 : Nat) (he : ws[q0]? = some (a, .inr (8, fs))) (hv : fs[3]? = some v) (hdg : decode cc pc = .ok (.getfield 414, 3))
    (kk : W p l e R s m args below meth c H locs cells slots Q (F0 m (pc + 3) ls (v :: rest))) : W p l e R s m args below meth c H locs cells slots Q (F0 m pc ls (.ref a :: rest)) :=
  va_getN (C := RX8) (T := TX8) (N := 4) (Ts := wl ⟨RX11, nm, ds⟩ cc n r) C.1 C.2.1 C.2.2.2.2.1 (fun w h => List.mem_cons_of_mem _ (inT8 w h)) C.2.2.2.1 C.2.2.2.2.2.1 hP q0 he rfl 3 (by decide) (va_Nw.use rfl (C.2.2.2.2.2.2.2.2.1 _ q396)) (fun _ h9 => h9) hv hdg kk
theorem q132 : Cond.fieldLinkNest RX11 415 "SnowForSummer$Text" "length" "I" "SnowForSummer" ∈ NL := NL_mem 132 (by decide +kernel) (by decide +kernel)
theorem gf_RX11_415 {p : Program} {l : Launch} {e : Env} {R : Room} {s : State} {m : MethodId} {args : Array Value} {below : List Frame} {meth : Method} {c : Code} {H : Heap} {locs : List Loc} {cells slots : Nat} {Q : State → Prop} {E : ENV} {cc : ByteArray} {n : Nat} {r : Option FieldType} {pc : Nat} {ls : Array Slot} {rest : List Value} {a : Nat} {ws : va_W} {nm ds : String} {fs : List Value} {A : Nat → Prop} {v : Value} (C : Cx E A ⟨RX11, nm, ds⟩ cc n r p s m args meth c) (hP : va_P E.1 classes ws H) (q0 : Nat) (he : ws[q0]? = some (a, .inr (6, fs))) (hv : fs[1]? = some v) (hdg : decode cc pc = .ok (.getfield 415, 3))
    (kk : W p l e R s m args below meth c H locs cells slots Q (F0 m (pc + 3) ls (v :: rest))) : W p l e R s m args below meth c H locs cells slots Q (F0 m pc ls (.ref a :: rest)) :=
  va_getN (C := RX6) (T := TX6) (N := 4) (Ts := wl ⟨RX11, nm, ds⟩ cc n r) C.1 C.2.1 C.2.2.2.2.1 (fun w h => List.mem_cons_of_mem _ (inT6 w h)) C.2.2.2.1 C.2.2.2.2.2.1 hP q0 he rfl 1 (by decide) (va_Nw.use rfl (C.2.2.2.2.2.2.2.2.1 _ q132)) (fun _ h9 => h9) hv hdg kk
theorem dX11_count_0 : decode cX11_count 0 = .ok (.iload_n 1, 1) := by decide +kernel
theorem dX11_count_1 : decode cX11_count 1 = .ok (.tableswitch 144 0 9 #[55, 63, 74, 85, 96, 107, 115, 123, 131, 136], 55) := by decide +kernel
theorem dX11_count_56 : decode cX11_count 56 = .ok (.aload_n 0, 1) := by decide +kernel
theorem dX11_count_57 : decode cX11_count 57 = .ok (.getfield 19, 3) := by decide +kernel
theorem dX11_count_60 : decode cX11_count 60 = .ok (.getfield 179, 3) := by decide +kernel
theorem dX11_count_63 : decode cX11_count 63 = .ok (.ireturn, 1) := by decide +kernel
theorem dX11_count_64 : decode cX11_count 64 = .ok (.aload_n 0, 1) := by decide +kernel
theorem dX11_count_65 : decode cX11_count 65 = .ok (.getfield 49, 3) := by decide +kernel
theorem dX11_count_68 : decode cX11_count 68 = .ok (.getfield 148, 3) := by decide +kernel
theorem dX11_count_71 : decode cX11_count 71 = .ok (.getfield 408, 3) := by decide +kernel
theorem dX11_count_74 : decode cX11_count 74 = .ok (.ireturn, 1) := by decide +kernel
theorem dX11_count_75 : decode cX11_count 75 = .ok (.aload_n 0, 1) := by decide +kernel
theorem dX11_count_76 : decode cX11_count 76 = .ok (.getfield 49, 3) := by decide +kernel
theorem dX11_count_79 : decode cX11_count 79 = .ok (.getfield 148, 3) := by decide +kernel
theorem dX11_count_82 : decode cX11_count 82 = .ok (.invokevirtual 351, 3) := by decide +kernel
theorem dX11_count_85 : decode cX11_count 85 = .ok (.ireturn, 1) := by decide +kernel
theorem dX11_count_86 : decode cX11_count 86 = .ok (.aload_n 0, 1) := by decide +kernel
theorem dX11_count_87 : decode cX11_count 87 = .ok (.getfield 49, 3) := by decide +kernel
theorem dX11_count_90 : decode cX11_count 90 = .ok (.getfield 148, 3) := by decide +kernel
theorem dX11_count_93 : decode cX11_count 93 = .ok (.invokevirtual 218, 3) := by decide +kernel
theorem dX11_count_96 : decode cX11_count 96 = .ok (.ireturn, 1) := by decide +kernel
theorem dX11_count_97 : decode cX11_count 97 = .ok (.aload_n 0, 1) := by decide +kernel
theorem dX11_count_98 : decode cX11_count 98 = .ok (.getfield 49, 3) := by decide +kernel
theorem dX11_count_101 : decode cX11_count 101 = .ok (.getfield 148, 3) := by decide +kernel
theorem dX11_count_104 : decode cX11_count 104 = .ok (.invokevirtual 308, 3) := by decide +kernel
theorem dX11_count_107 : decode cX11_count 107 = .ok (.ireturn, 1) := by decide +kernel
theorem dX11_count_108 : decode cX11_count 108 = .ok (.aload_n 0, 1) := by decide +kernel
theorem dX11_count_109 : decode cX11_count 109 = .ok (.getfield 26, 3) := by decide +kernel
theorem dX11_count_112 : decode cX11_count 112 = .ok (.getfield 411, 3) := by decide +kernel
theorem dX11_count_115 : decode cX11_count 115 = .ok (.ireturn, 1) := by decide +kernel
theorem dX11_count_116 : decode cX11_count 116 = .ok (.aload_n 0, 1) := by decide +kernel
theorem dX11_count_117 : decode cX11_count 117 = .ok (.getfield 76, 3) := by decide +kernel
theorem dX11_count_120 : decode cX11_count 120 = .ok (.getfield 280, 3) := by decide +kernel
theorem dX11_count_123 : decode cX11_count 123 = .ok (.ireturn, 1) := by decide +kernel
theorem dX11_count_124 : decode cX11_count 124 = .ok (.aload_n 0, 1) := by decide +kernel
theorem dX11_count_125 : decode cX11_count 125 = .ok (.getfield 98, 3) := by decide +kernel
theorem dX11_count_128 : decode cX11_count 128 = .ok (.getfield 414, 3) := by decide +kernel
theorem dX11_count_131 : decode cX11_count 131 = .ok (.ireturn, 1) := by decide +kernel
theorem dX11_count_132 : decode cX11_count 132 = .ok (.aload_n 0, 1) := by decide +kernel
theorem dX11_count_133 : decode cX11_count 133 = .ok (.getfield 288, 3) := by decide +kernel
theorem dX11_count_136 : decode cX11_count 136 = .ok (.ireturn, 1) := by decide +kernel
theorem dX11_count_137 : decode cX11_count 137 = .ok (.aload_n 0, 1) := by decide +kernel
theorem dX11_count_138 : decode cX11_count 138 = .ok (.getfield 10, 3) := by decide +kernel
theorem dX11_count_141 : decode cX11_count 141 = .ok (.getfield 415, 3) := by decide +kernel
theorem dX11_count_144 : decode cX11_count 144 = .ok (.ireturn, 1) := by decide +kernel
theorem dX11_count_145 : decode cX11_count 145 = .ok (.iconst (-1), 1) := by decide +kernel
theorem dX11_count_146 : decode cX11_count 146 = .ok (.ireturn, 1) := by decide +kernel
def WX11_count (E : ENV) (q0 : Nat) (q0_text : Nat) (q0_town : Nat) (q0_weather : Nat) (q0_rule : Nat) (q0_acts : Nat) (q0_real : Nat) (q0_trial : Nat) (q0_round : Nat) (q0_nights : Nat) (q0_before : Nat) (q0_history : Nat) (q0_kept : Nat) (q0_keptHouses : Nat) (q0_shortest : Nat) (q0_tracks : Nat) (q0_tally : Nat) (q0_told : Nat) (q0_text_signs : Nat) (q0_tracks_house : Nat) (q0_tracks_night : Nat) (q0_tracks_out : Nat) (q0_history_states : Nat) (q0_weather_inches : Nat) (q0_real_state : Nat) (q0_real_owedBy : Nat) (q0_real_state_snow : Nat) (q0_real_state_path : Nat) (q0_real_state_debt : Nat) (q0_town_hold : Nat) (q0_town_below : Nat) (q0_town_hay : Nat) (i_toldCount : Int32) (i_text_length : Int32) (i_text_place : Int32) (i_text_limit : Int32) (i_tracks_size : Int32) (i_history_size : Int32) (i_history_next : Int32) (i_weather_length : Int32) (i_weather_cycle : Int32) (i_real_owed : Int32) (i_real_slides : Int32) (i_real_struck : Int32) (i_real_slid : Int32) (i_real_state_now : Int32) (a_real_state_debt : Nat → Int32) (a_real_state_path : Nat → Int32) (a_real_state_snow : Nat → Int32) (i_town_houses : Int32) : va_W := [(q0, .inr (11, [.ref q0_text, .ref q0_town, .ref q0_weather, .ref q0_rule, .ref q0_acts, .ref q0_real, .ref q0_trial, .ref q0_round, .ref q0_nights, .ref q0_before, .ref q0_history, .ref q0_kept, .ref q0_keptHouses, .ref q0_shortest, .ref q0_tracks, .ref q0_tally, .ref q0_told, .int i_toldCount])), (q0_text, .inr (6, [.ref q0_text_signs, .int i_text_length, .int i_text_place, .int i_text_limit])), (q0_tracks, .inr (8, [.ref q0_tracks_house, .ref q0_tracks_night, .ref q0_tracks_out, .int i_tracks_size])), (q0_history, .inr (2, [.ref q0_history_states, .int i_history_size, .int i_history_next])), (q0_weather, .inr (10, [.ref q0_weather_inches, .int i_weather_length, .int i_weather_cycle])), (q0_real, .inr (9, [.ref q0_town, .ref q0_weather, .ref q0_rule, .ref q0_real_state, .ref q0_real_owedBy, .int i_real_owed, .int i_real_slides, .int i_real_struck, .int i_real_slid])), (q0_real_state, .inr (5, [.ref q0_real_state_snow, .ref q0_real_state_path, .ref q0_real_state_debt, .int i_real_state_now])), (q0_real_state_debt, .inl (E.2.1, 49, .inl a_real_state_debt)), (q0_real_state_path, .inl (E.2.1, 7, .inl a_real_state_path)), (q0_real_state_snow, .inl (E.2.1, 14, .inl a_real_state_snow)), (q0_town, .inr (7, [.ref q0_town_hold, .ref q0_town_below, .ref q0_town_hay, .int i_town_houses]))]
set_option maxHeartbeats 4000000 in
set_option maxRecDepth 20000 in
theorem kX11_count (l : Launch) (E : ENV) (q0 : Nat) (q0_text : Nat) (q0_town : Nat) (q0_weather : Nat) (q0_rule : Nat) (q0_acts : Nat) (q0_real : Nat) (q0_trial : Nat) (q0_round : Nat) (q0_nights : Nat) (q0_before : Nat) (q0_history : Nat) (q0_kept : Nat) (q0_keptHouses : Nat) (q0_shortest : Nat) (q0_tracks : Nat) (q0_tally : Nat) (q0_told : Nat) (q0_text_signs : Nat) (q0_tracks_house : Nat) (q0_tracks_night : Nat) (q0_tracks_out : Nat) (q0_history_states : Nat) (q0_weather_inches : Nat) (q0_real_state : Nat) (q0_real_owedBy : Nat) (q0_real_state_snow : Nat) (q0_real_state_path : Nat) (q0_real_state_debt : Nat) (q0_town_hold : Nat) (q0_town_below : Nat) (q0_town_hay : Nat) (i_toldCount : Int32) (i_text_length : Int32) (i_text_place : Int32) (i_text_limit : Int32) (i_tracks_size : Int32) (i_history_size : Int32) (i_history_next : Int32) (i_weather_length : Int32) (i_weather_cycle : Int32) (i_real_owed : Int32) (i_real_slides : Int32) (i_real_struck : Int32) (i_real_slid : Int32) (i_real_state_now : Int32) (a_real_state_debt : Nat → Int32) (a_real_state_path : Nat → Int32) (a_real_state_snow : Nat → Int32) (i_town_houses : Int32) (p1 : Int32) (o9 : Int32) (hf : fX11_count i_toldCount i_text_length i_tracks_size i_history_size i_weather_length i_real_state_now a_real_state_debt a_real_state_path a_real_state_snow i_town_houses p1 = some o9) : CI l E yX11_count cX11_count 2 (some .int) 2 [.ref q0, .int p1] (WX11_count E q0 q0_text q0_town q0_weather q0_rule q0_acts q0_real q0_trial q0_round q0_nights q0_before q0_history q0_kept q0_keptHouses q0_shortest q0_tracks q0_tally q0_told q0_text_signs q0_tracks_house q0_tracks_night q0_tracks_out q0_history_states q0_weather_inches q0_real_state q0_real_owedBy q0_real_state_snow q0_real_state_path q0_real_state_debt q0_town_hold q0_town_below q0_town_hay i_toldCount i_text_length i_text_place i_text_limit i_tracks_size i_history_size i_history_next i_weather_length i_weather_cycle i_real_owed i_real_slides i_real_struck i_real_slid i_real_state_now a_real_state_debt a_real_state_path a_real_state_snow i_town_houses) (WX11_count E q0 q0_text q0_town q0_weather q0_rule q0_acts q0_real q0_trial q0_round q0_nights q0_before q0_history q0_kept q0_keptHouses q0_shortest q0_tracks q0_tally q0_told q0_text_signs q0_tracks_house q0_tracks_night q0_tracks_out q0_history_states q0_weather_inches q0_real_state q0_real_owedBy q0_real_state_snow q0_real_state_path q0_real_state_debt q0_town_hold q0_town_below q0_town_hay i_toldCount i_text_length i_text_place i_text_limit i_tracks_size i_history_size i_history_next i_weather_length i_weather_cycle i_real_owed i_real_slides i_real_struck i_real_slid i_real_state_now a_real_state_debt a_real_state_path a_real_state_snow i_town_houses) o9 := by
  refine begI (by decide +kernel) (Nat.le_of_ble_eq_true rfl) ?_
  intro p e s m args below meth c A Q C hA hret
  have hx := C.1
  have hb := C.2.1
  intro H locs ls hl hP hD hS
  have hl : lv_has ls 2 [(0, .ref q0), (1, .int p1)] := hl
  unfold fX11_count at hf
  refine lv_iload_n hx hb dX11_count_0 rfl (lv_at hl 1 rfl) ?_
  by_cases c1 : p1 = 0
  · rw [if_pos c1] at hf
    refine r_tsw C dX11_count_1 0 c1 (by decide) (by decide) (off := 55) (by decide) (tgt := 56) (by decide) ?_
    refine lv_aload_n hx hb dX11_count_56 rfl (lv_at hl 0 rfl) ?_
    refine gf_RX11_19 C hP 0 rfl rfl dX11_count_57 ?_
    refine gf_RX11_179 C hP 10 rfl rfl dX11_count_60 ?_
    have hj0 := Option.some.inj hf
    subst hj0
    exact hret _ _ _ _ dX11_count_63 rfl hP hD hS
  · rw [if_neg c1] at hf
    by_cases c2 : p1 = 1
    · rw [if_pos c2] at hf
      refine r_tsw C dX11_count_1 1 c2 (by decide) (by decide) (off := 63) (by decide) (tgt := 64) (by decide) ?_
      refine lv_aload_n hx hb dX11_count_64 rfl (lv_at hl 0 rfl) ?_
      refine gf_RX11_49 C hP 0 rfl rfl dX11_count_65 ?_
      refine gf_RX11_148 C hP 5 rfl rfl dX11_count_68 ?_
      refine gf_RX11_408 C hP 6 rfl rfl dX11_count_71 ?_
      have hj0 := Option.some.inj hf
      subst hj0
      exact hret _ _ _ _ dX11_count_74 rfl hP hD hS
    · rw [if_neg c2] at hf
      by_cases c3 : p1 = 2
      · rw [if_pos c3] at hf
        refine r_tsw C dX11_count_1 2 c3 (by decide) (by decide) (off := 74) (by decide) (tgt := 75) (by decide) ?_
        refine lv_aload_n hx hb dX11_count_75 rfl (lv_at hl 0 rfl) ?_
        refine gf_RX11_49 C hP 0 rfl rfl dX11_count_76 ?_
        refine gf_RX11_148 C hP 5 rfl rfl dX11_count_79 ?_
        obtain ⟨o4, hg5, hf⟩ := bd_some hf
        refine k_VI2 (As := []) C K_RX11_351 (Nat.le_of_ble_eq_true rfl) (Nat.le_of_ble_eq_true rfl) (kX5_onRoofs l E q0_real_state q0_real_state_snow q0_real_state_path q0_real_state_debt i_real_state_now a_real_state_snow o4 hg5) [6, 9] rfl rfl rfl (ci := 5) rfl rfl (q0 := 0) rfl hP hD hS hA hl.1 (Nat.le_of_ble_eq_true rfl) rfl dX11_count_82 (ws2 := (WX11_count E q0 q0_text q0_town q0_weather q0_rule q0_acts q0_real q0_trial q0_round q0_nights q0_before q0_history q0_kept q0_keptHouses q0_shortest q0_tracks q0_tally q0_told q0_text_signs q0_tracks_house q0_tracks_night q0_tracks_out q0_history_states q0_weather_inches q0_real_state q0_real_owedBy q0_real_state_snow q0_real_state_path q0_real_state_debt q0_town_hold q0_town_below q0_town_hay i_toldCount i_text_length i_text_place i_text_limit i_tracks_size i_history_size i_history_next i_weather_length i_weather_cycle i_real_owed i_real_slides i_real_struck i_real_slid i_real_state_now a_real_state_debt a_real_state_path a_real_state_snow i_town_houses)) 11 [0, 1, 2, 3, 4, 5, 7, 8, 10] rfl rfl rfl rfl (by decide +kernel) (fun H locs hP hD hS => ?_)
        have hj0 := Option.some.inj hf
        subst hj0
        exact hret _ _ _ _ dX11_count_85 rfl hP hD hS
      · rw [if_neg c3] at hf
        by_cases c6 : p1 = 3
        · rw [if_pos c6] at hf
          refine r_tsw C dX11_count_1 3 c6 (by decide) (by decide) (off := 85) (by decide) (tgt := 86) (by decide) ?_
          refine lv_aload_n hx hb dX11_count_86 rfl (lv_at hl 0 rfl) ?_
          refine gf_RX11_49 C hP 0 rfl rfl dX11_count_87 ?_
          refine gf_RX11_148 C hP 5 rfl rfl dX11_count_90 ?_
          obtain ⟨o7, hg8, hf⟩ := bd_some hf
          refine k_VI2 (As := []) C K_RX11_218 (Nat.le_of_ble_eq_true rfl) (Nat.le_of_ble_eq_true rfl) (kX5_onPaths l E q0_real_state q0_real_state_snow q0_real_state_path q0_real_state_debt i_real_state_now a_real_state_path o7 hg8) [6, 8] rfl rfl rfl (ci := 5) rfl rfl (q0 := 0) rfl hP hD hS hA hl.1 (Nat.le_of_ble_eq_true rfl) rfl dX11_count_93 (ws2 := (WX11_count E q0 q0_text q0_town q0_weather q0_rule q0_acts q0_real q0_trial q0_round q0_nights q0_before q0_history q0_kept q0_keptHouses q0_shortest q0_tracks q0_tally q0_told q0_text_signs q0_tracks_house q0_tracks_night q0_tracks_out q0_history_states q0_weather_inches q0_real_state q0_real_owedBy q0_real_state_snow q0_real_state_path q0_real_state_debt q0_town_hold q0_town_below q0_town_hay i_toldCount i_text_length i_text_place i_text_limit i_tracks_size i_history_size i_history_next i_weather_length i_weather_cycle i_real_owed i_real_slides i_real_struck i_real_slid i_real_state_now a_real_state_debt a_real_state_path a_real_state_snow i_town_houses)) 11 [0, 1, 2, 3, 4, 5, 7, 9, 10] rfl rfl rfl rfl (by decide +kernel) (fun H locs hP hD hS => ?_)
          have hj0 := Option.some.inj hf
          subst hj0
          exact hret _ _ _ _ dX11_count_96 rfl hP hD hS
        · rw [if_neg c6] at hf
          by_cases c9 : p1 = 4
          · rw [if_pos c9] at hf
            refine r_tsw C dX11_count_1 4 c9 (by decide) (by decide) (off := 96) (by decide) (tgt := 97) (by decide) ?_
            refine lv_aload_n hx hb dX11_count_97 rfl (lv_at hl 0 rfl) ?_
            refine gf_RX11_49 C hP 0 rfl rfl dX11_count_98 ?_
            refine gf_RX11_148 C hP 5 rfl rfl dX11_count_101 ?_
            obtain ⟨o10, hg11, hf⟩ := bd_some hf
            refine k_VI2 (As := []) C K_RX11_308 (Nat.le_of_ble_eq_true rfl) (Nat.le_of_ble_eq_true rfl) (kX5_owedInAll l E q0_real_state q0_real_state_snow q0_real_state_path q0_real_state_debt i_real_state_now a_real_state_debt o10 hg11) [6, 7] rfl rfl rfl (ci := 5) rfl rfl (q0 := 0) rfl hP hD hS hA hl.1 (Nat.le_of_ble_eq_true rfl) rfl dX11_count_104 (ws2 := (WX11_count E q0 q0_text q0_town q0_weather q0_rule q0_acts q0_real q0_trial q0_round q0_nights q0_before q0_history q0_kept q0_keptHouses q0_shortest q0_tracks q0_tally q0_told q0_text_signs q0_tracks_house q0_tracks_night q0_tracks_out q0_history_states q0_weather_inches q0_real_state q0_real_owedBy q0_real_state_snow q0_real_state_path q0_real_state_debt q0_town_hold q0_town_below q0_town_hay i_toldCount i_text_length i_text_place i_text_limit i_tracks_size i_history_size i_history_next i_weather_length i_weather_cycle i_real_owed i_real_slides i_real_struck i_real_slid i_real_state_now a_real_state_debt a_real_state_path a_real_state_snow i_town_houses)) 11 [0, 1, 2, 3, 4, 5, 8, 9, 10] rfl rfl rfl rfl (by decide +kernel) (fun H locs hP hD hS => ?_)
            have hj0 := Option.some.inj hf
            subst hj0
            exact hret _ _ _ _ dX11_count_107 rfl hP hD hS
          · rw [if_neg c9] at hf
            by_cases c12 : p1 = 5
            · rw [if_pos c12] at hf
              refine r_tsw C dX11_count_1 5 c12 (by decide) (by decide) (off := 107) (by decide) (tgt := 108) (by decide) ?_
              refine lv_aload_n hx hb dX11_count_108 rfl (lv_at hl 0 rfl) ?_
              refine gf_RX11_26 C hP 0 rfl rfl dX11_count_109 ?_
              refine gf_RX11_411 C hP 4 rfl rfl dX11_count_112 ?_
              have hj0 := Option.some.inj hf
              subst hj0
              exact hret _ _ _ _ dX11_count_115 rfl hP hD hS
            · rw [if_neg c12] at hf
              by_cases c13 : p1 = 6
              · rw [if_pos c13] at hf
                refine r_tsw C dX11_count_1 6 c13 (by decide) (by decide) (off := 115) (by decide) (tgt := 116) (by decide) ?_
                refine lv_aload_n hx hb dX11_count_116 rfl (lv_at hl 0 rfl) ?_
                refine gf_RX11_76 C hP 0 rfl rfl dX11_count_117 ?_
                refine gf_RX11_280 C hP 3 rfl rfl dX11_count_120 ?_
                have hj0 := Option.some.inj hf
                subst hj0
                exact hret _ _ _ _ dX11_count_123 rfl hP hD hS
              · rw [if_neg c13] at hf
                by_cases c14 : p1 = 7
                · rw [if_pos c14] at hf
                  refine r_tsw C dX11_count_1 7 c14 (by decide) (by decide) (off := 123) (by decide) (tgt := 124) (by decide) ?_
                  refine lv_aload_n hx hb dX11_count_124 rfl (lv_at hl 0 rfl) ?_
                  refine gf_RX11_98 C hP 0 rfl rfl dX11_count_125 ?_
                  refine gf_RX11_414 C hP 2 rfl rfl dX11_count_128 ?_
                  have hj0 := Option.some.inj hf
                  subst hj0
                  exact hret _ _ _ _ dX11_count_131 rfl hP hD hS
                · rw [if_neg c14] at hf
                  by_cases c15 : p1 = 8
                  · rw [if_pos c15] at hf
                    refine r_tsw C dX11_count_1 8 c15 (by decide) (by decide) (off := 131) (by decide) (tgt := 132) (by decide) ?_
                    refine lv_aload_n hx hb dX11_count_132 rfl (lv_at hl 0 rfl) ?_
                    refine gf_RX11_288 C hP 0 rfl rfl dX11_count_133 ?_
                    have hj0 := Option.some.inj hf
                    subst hj0
                    exact hret _ _ _ _ dX11_count_136 rfl hP hD hS
                  · rw [if_neg c15] at hf
                    by_cases c16 : p1 = 9
                    · rw [if_pos c16] at hf
                      refine r_tsw C dX11_count_1 9 c16 (by decide) (by decide) (off := 136) (by decide) (tgt := 137) (by decide) ?_
                      refine lv_aload_n hx hb dX11_count_137 rfl (lv_at hl 0 rfl) ?_
                      refine gf_RX11_10 C hP 0 rfl rfl dX11_count_138 ?_
                      refine gf_RX11_415 C hP 1 rfl rfl dX11_count_141 ?_
                      have hj0 := Option.some.inj hf
                      subst hj0
                      exact hret _ _ _ _ dX11_count_144 rfl hP hD hS
                    · rw [if_neg c16] at hf
                      have hc1 : ¬ (p1 : Int32).toInt = 0 := toInt_ne c1
                      have hc2 : ¬ (p1 : Int32).toInt = 1 := toInt_ne c2
                      have hc3 : ¬ (p1 : Int32).toInt = 2 := toInt_ne c3
                      have hc6 : ¬ (p1 : Int32).toInt = 3 := toInt_ne c6
                      have hc9 : ¬ (p1 : Int32).toInt = 4 := toInt_ne c9
                      have hc12 : ¬ (p1 : Int32).toInt = 5 := toInt_ne c12
                      have hc13 : ¬ (p1 : Int32).toInt = 6 := toInt_ne c13
                      have hc14 : ¬ (p1 : Int32).toInt = 7 := toInt_ne c14
                      have hc15 : ¬ (p1 : Int32).toInt = 8 := toInt_ne c15
                      have hc16 : ¬ (p1 : Int32).toInt = 9 := toInt_ne c16
                      refine lv_tableOut hx hb dX11_count_1 (by omega) (tgt := 145) (by decide) ?_
                      refine lv_iconst (v := (-1)) hx hb dX11_count_145 (by decide) ?_
                      have hj0 := Option.some.inj hf
                      subst hj0
                      exact hret _ _ _ _ dX11_count_146 rfl hP hD hS
theorem dX11_row_0 : decode cX11_row 0 = .ok (.iload_n 1, 1) := by decide +kernel
theorem dX11_row_1 : decode cX11_row 1 = .ok (.ifCond .lt 17, 3) := by decide +kernel
theorem dX11_row_4 : decode cX11_row 4 = .ok (.iload_n 1, 1) := by decide +kernel
theorem dX11_row_5 : decode cX11_row 5 = .ok (.aload_n 0, 1) := by decide +kernel
theorem dX11_row_6 : decode cX11_row 6 = .ok (.getfield 288, 3) := by decide +kernel
theorem dX11_row_9 : decode cX11_row 9 = .ok (.if_icmp .ge 9, 3) := by decide +kernel
theorem dX11_row_12 : decode cX11_row 12 = .ok (.iload_n 1, 1) := by decide +kernel
theorem dX11_row_13 : decode cX11_row 13 = .ok (.bipush 8, 2) := by decide +kernel
theorem dX11_row_15 : decode cX11_row 15 = .ok (.if_icmp .lt 11, 3) := by decide +kernel
theorem dX11_row_18 : decode cX11_row 18 = .ok (.new 142, 3) := by decide +kernel
theorem dX11_row_21 : decode cX11_row 21 = .ok (.dup, 1) := by decide +kernel
theorem dX11_row_22 : decode cX11_row 22 = .ok (.invokespecial 144, 3) := by decide +kernel
theorem dX11_row_25 : decode cX11_row 25 = .ok (.athrow, 1) := by decide +kernel
theorem dX11_row_26 : decode cX11_row 26 = .ok (.aload_n 0, 1) := by decide +kernel
theorem dX11_row_27 : decode cX11_row 27 = .ok (.getfield 105, 3) := by decide +kernel
theorem dX11_row_30 : decode cX11_row 30 = .ok (.iload_n 1, 1) := by decide +kernel
theorem dX11_row_31 : decode cX11_row 31 = .ok (.iaload, 1) := by decide +kernel
theorem dX11_row_32 : decode cX11_row 32 = .ok (.ireturn, 1) := by decide +kernel
def WX11_row (E : ENV) (q0 : Nat) (q0_text : Nat) (q0_town : Nat) (q0_weather : Nat) (q0_rule : Nat) (q0_acts : Nat) (q0_real : Nat) (q0_trial : Nat) (q0_round : Nat) (q0_nights : Nat) (q0_before : Nat) (q0_history : Nat) (q0_kept : Nat) (q0_keptHouses : Nat) (q0_shortest : Nat) (q0_tracks : Nat) (q0_tally : Nat) (q0_told : Nat) (i_toldCount : Int32) (a_told : Nat → Int32) : va_W := [(q0, .inr (11, [.ref q0_text, .ref q0_town, .ref q0_weather, .ref q0_rule, .ref q0_acts, .ref q0_real, .ref q0_trial, .ref q0_round, .ref q0_nights, .ref q0_before, .ref q0_history, .ref q0_kept, .ref q0_keptHouses, .ref q0_shortest, .ref q0_tracks, .ref q0_tally, .ref q0_told, .int i_toldCount])), (q0_told, .inl (E.2.1, 8, .inl a_told))]
set_option maxHeartbeats 4000000 in
set_option maxRecDepth 20000 in
theorem kX11_row (l : Launch) (E : ENV) (q0 : Nat) (q0_text : Nat) (q0_town : Nat) (q0_weather : Nat) (q0_rule : Nat) (q0_acts : Nat) (q0_real : Nat) (q0_trial : Nat) (q0_round : Nat) (q0_nights : Nat) (q0_before : Nat) (q0_history : Nat) (q0_kept : Nat) (q0_keptHouses : Nat) (q0_shortest : Nat) (q0_tracks : Nat) (q0_tally : Nat) (q0_told : Nat) (i_toldCount : Int32) (a_told : Nat → Int32) (p1 : Int32) (o9 : Int32) (hf : fX11_row i_toldCount a_told p1 = some o9) : CI l E yX11_row cX11_row 2 (some .int) 0 [.ref q0, .int p1] (WX11_row E q0 q0_text q0_town q0_weather q0_rule q0_acts q0_real q0_trial q0_round q0_nights q0_before q0_history q0_kept q0_keptHouses q0_shortest q0_tracks q0_tally q0_told i_toldCount a_told) (WX11_row E q0 q0_text q0_town q0_weather q0_rule q0_acts q0_real q0_trial q0_round q0_nights q0_before q0_history q0_kept q0_keptHouses q0_shortest q0_tracks q0_tally q0_told i_toldCount a_told) o9 := by
  refine begI (by decide +kernel) (Nat.le_of_ble_eq_true rfl) ?_
  intro p e s m args below meth c A Q C hA hret
  have hx := C.1
  have hb := C.2.1
  intro H locs ls hl hP hD hS
  have hl : lv_has ls 2 [(0, .ref q0), (1, .int p1)] := hl
  unfold fX11_row at hf
  refine lv_iload_n hx hb dX11_row_0 rfl (lv_at hl 1 rfl) ?_
  refine lv_if_lt (tgt := 18) hx hb dX11_row_1 (by decide) (fun c1 => ?_) (fun c1 => ?_)
  · rw [if_pos c1] at hf
    cases hf
  · rw [if_neg c1] at hf
    refine lv_iload_n hx hb dX11_row_4 rfl (lv_at hl 1 rfl) ?_
    refine lv_aload_n hx hb dX11_row_5 rfl (lv_at hl 0 rfl) ?_
    refine gf_RX11_288 C hP 0 rfl rfl dX11_row_6 ?_
    refine lv_icmp_ge (tgt := 18) hx hb dX11_row_9 (by decide) (fun c2 => ?_) (fun c2 => ?_)
    · rw [if_pos c2] at hf
      cases hf
    · rw [if_neg c2] at hf
      refine lv_iload_n hx hb dX11_row_12 rfl (lv_at hl 1 rfl) ?_
      refine lv_bipush (v := 8) hx hb dX11_row_13 (by decide) ?_
      refine lv_icmp_lt (tgt := 26) hx hb dX11_row_15 (by decide) (fun c3 => ?_) (fun c3 => ?_)
      · rw [if_pos c3] at hf
        refine lv_aload_n hx hb dX11_row_26 rfl (lv_at hl 0 rfl) ?_
        refine gf_RX11_105 C hP 0 rfl rfl dX11_row_27 ?_
        refine lv_iload_n hx hb dX11_row_30 rfl (lv_at hl 1 rfl) ?_
        obtain ⟨g4, hf⟩ := gd_some hf
        refine va_iald hx hb C.2.2.2.2.2.1 hP 1 0 rfl rfl (vin_in g4) dX11_row_31 ?_
        have hj0 := Option.some.inj hf
        subst hj0
        exact hret _ _ _ _ dX11_row_32 rfl hP hD hS
      · rw [if_neg c3] at hf
        cases hf
