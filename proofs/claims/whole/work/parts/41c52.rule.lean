theorem q614 : Cond.fieldLink RJ0 38 "java/lang/String" "COMPACT_STRINGS" "Z" ∈ Tg := Tg_mem 614 (by decide +kernel) (by decide +kernel)
theorem q1954 : Cond.fieldLink RJ0 15 "java/lang/String" "coder" "B" ∈ Tg := Tg_mem 1954 (by decide +kernel) (by decide +kernel)
theorem dJ0_isLatin1_aae02_0 : decode cJ0_isLatin1_aae02 0 = .ok (.getstatic 38, 3) := by decide +kernel
theorem dJ0_isLatin1_aae02_3 : decode cJ0_isLatin1_aae02 3 = .ok (.ifCond .eq 14, 3) := by decide +kernel
theorem dJ0_isLatin1_aae02_6 : decode cJ0_isLatin1_aae02 6 = .ok (.aload_n 0, 1) := by decide +kernel
theorem dJ0_isLatin1_aae02_7 : decode cJ0_isLatin1_aae02 7 = .ok (.getfield 15, 3) := by decide +kernel
theorem dJ0_isLatin1_aae02_10 : decode cJ0_isLatin1_aae02 10 = .ok (.ifCond .ne 7, 3) := by decide +kernel
theorem dJ0_isLatin1_aae02_13 : decode cJ0_isLatin1_aae02 13 = .ok (.iconst 1, 1) := by decide +kernel
theorem dJ0_isLatin1_aae02_14 : decode cJ0_isLatin1_aae02 14 = .ok (.goto 4, 3) := by decide +kernel
theorem dJ0_isLatin1_aae02_17 : decode cJ0_isLatin1_aae02 17 = .ok (.iconst 0, 1) := by decide +kernel
theorem dJ0_isLatin1_aae02_18 : decode cJ0_isLatin1_aae02 18 = .ok (.ireturn, 1) := by decide +kernel
def WJ0_isLatin1_aae02 (E : ENV)  : va_W := []
set_option maxHeartbeats 4000000 in
set_option maxRecDepth 20000 in
theorem kJ0_isLatin1_aae02 (l : Launch) (E : ENV) (r9 : Int32) (hf : fJ0_isLatin1_aae02 = some r9) : CI l E yJ0_isLatin1_aae02 cJ0_isLatin1_aae02 1 (some .boolean) 0 [.ref (aS E)] (WJ0_isLatin1_aae02 E) (WJ0_isLatin1_aae02 E) r9 := by
  refine begI (by decide +kernel) (Nat.le_of_ble_eq_true rfl) ?_
  intro p e s m args below meth c A Q C hA hret
  have hx := C.1
  have hb := C.2.1
  intro H locs ls hl hP hD hS
  have hl : lv_has ls 1 [(0, .ref (aS E))] := hl
  unfold fJ0_isLatin1_aae02 at hf
  refine rs_st C hS q614 dJ0_isLatin1_aae02_0 ?_
  refine lv_if_eq (tgt := 17) hx hb dJ0_isLatin1_aae02_3 (by decide) (fun c1 => ?_) (fun c1 => ?_)
  · rw [if_pos c1] at hf
    refine lv_iconst (v := 0) hx hb dJ0_isLatin1_aae02_17 (by decide) ?_
    have hj0 := Option.some.inj hf
    subst hj0
    exact hret _ _ _ _ dJ0_isLatin1_aae02_18 rfl hP hD hS
  · rw [if_neg c1] at hf
    refine lv_aload_n hx hb dJ0_isLatin1_aae02_6 rfl (lv_at hl 0 rfl) ?_
    refine rs_cod C hS q1954 dJ0_isLatin1_aae02_7 ?_
    refine lv_if_ne (tgt := 17) hx hb dJ0_isLatin1_aae02_10 (by decide) (fun c2 => ?_) (fun c2 => ?_)
    · rw [if_neg c2] at hf
      refine lv_iconst (v := 0) hx hb dJ0_isLatin1_aae02_17 (by decide) ?_
      have hj0 := Option.some.inj hf
      subst hj0
      exact hret _ _ _ _ dJ0_isLatin1_aae02_18 rfl hP hD hS
    · rw [if_pos c2] at hf
      refine lv_iconst (v := 1) hx hb dJ0_isLatin1_aae02_13 (by decide) ?_
      refine lv_goto (tgt := 18) hx hb dJ0_isLatin1_aae02_14 (by decide) ?_
      have hj0 := Option.some.inj hf
      subst hj0
      exact hret _ _ _ _ dJ0_isLatin1_aae02_18 rfl hP hD hS
theorem dJ0_coder_7d493_0 : decode cJ0_coder_7d493 0 = .ok (.getstatic 38, 3) := by decide +kernel
theorem dJ0_coder_7d493_3 : decode cJ0_coder_7d493 3 = .ok (.ifCond .eq 10, 3) := by decide +kernel
theorem dJ0_coder_7d493_6 : decode cJ0_coder_7d493 6 = .ok (.aload_n 0, 1) := by decide +kernel
theorem dJ0_coder_7d493_7 : decode cJ0_coder_7d493 7 = .ok (.getfield 15, 3) := by decide +kernel
theorem dJ0_coder_7d493_10 : decode cJ0_coder_7d493 10 = .ok (.goto 4, 3) := by decide +kernel
theorem dJ0_coder_7d493_13 : decode cJ0_coder_7d493 13 = .ok (.iconst 1, 1) := by decide +kernel
theorem dJ0_coder_7d493_14 : decode cJ0_coder_7d493 14 = .ok (.ireturn, 1) := by decide +kernel
def WJ0_coder_7d493 (E : ENV)  : va_W := []
set_option maxHeartbeats 4000000 in
set_option maxRecDepth 20000 in
theorem kJ0_coder_7d493 (l : Launch) (E : ENV) (r9 : Int32) (hf : fJ0_coder_7d493 = some r9) : CI l E yJ0_coder_7d493 cJ0_coder_7d493 1 (some .byte) 0 [.ref (aS E)] (WJ0_coder_7d493 E) (WJ0_coder_7d493 E) r9 := by
  refine begI (by decide +kernel) (Nat.le_of_ble_eq_true rfl) ?_
  intro p e s m args below meth c A Q C hA hret
  have hx := C.1
  have hb := C.2.1
  intro H locs ls hl hP hD hS
  have hl : lv_has ls 1 [(0, .ref (aS E))] := hl
  unfold fJ0_coder_7d493 at hf
  refine rs_st C hS q614 dJ0_coder_7d493_0 ?_
  refine lv_if_eq (tgt := 13) hx hb dJ0_coder_7d493_3 (by decide) (fun c1 => ?_) (fun c1 => ?_)
  · rw [if_pos c1] at hf
    refine lv_iconst (v := 1) hx hb dJ0_coder_7d493_13 (by decide) ?_
    have hj0 := Option.some.inj hf
    subst hj0
    exact hret _ _ _ _ dJ0_coder_7d493_14 rfl hP hD hS
  · rw [if_neg c1] at hf
    refine lv_aload_n hx hb dJ0_coder_7d493_6 rfl (lv_at hl 0 rfl) ?_
    refine rs_cod C hS q1954 dJ0_coder_7d493_7 ?_
    refine lv_goto (tgt := 14) hx hb dJ0_coder_7d493_10 (by decide) ?_
    have hj0 := Option.some.inj hf
    subst hj0
    exact hret _ _ _ _ dJ0_coder_7d493_14 rfl hP hD hS
theorem q1955 : Cond.fieldLink RJ0 9 "java/lang/String" "value" "[B" ∈ Tg := Tg_mem 1955 (by decide +kernel) (by decide +kernel)
theorem K_RJ0_335 : KV RJ0 335 yJ0_coder_7d493 cJ0_coder_7d493 1 (some .byte) 0 := ⟨Tg_mem 623 (by decide +kernel) (by decide +kernel), Tg_mem 104 (by decide +kernel) (by decide +kernel), Tg_mem 620 (by decide +kernel) (by decide +kernel), Tg_mem 621 (by decide +kernel) (by decide +kernel), Tg_mem 622 (by decide +kernel) (by decide +kernel), by decide +kernel⟩
theorem dJ0_length_8abf5_0 : decode cJ0_length_8abf5 0 = .ok (.aload_n 0, 1) := by decide +kernel
theorem dJ0_length_8abf5_1 : decode cJ0_length_8abf5 1 = .ok (.getfield 9, 3) := by decide +kernel
theorem dJ0_length_8abf5_4 : decode cJ0_length_8abf5 4 = .ok (.arraylength, 1) := by decide +kernel
theorem dJ0_length_8abf5_5 : decode cJ0_length_8abf5 5 = .ok (.aload_n 0, 1) := by decide +kernel
theorem dJ0_length_8abf5_6 : decode cJ0_length_8abf5 6 = .ok (.invokevirtual 335, 3) := by decide +kernel
theorem dJ0_length_8abf5_9 : decode cJ0_length_8abf5 9 = .ok (.ishr, 1) := by decide +kernel
theorem dJ0_length_8abf5_10 : decode cJ0_length_8abf5 10 = .ok (.ireturn, 1) := by decide +kernel
def WJ0_length_8abf5 (E : ENV)  : va_W := []
set_option maxHeartbeats 4000000 in
set_option maxRecDepth 20000 in
theorem kJ0_length_8abf5 (l : Launch) (E : ENV) (r9 : Int32) (hf : fJ0_length_8abf5 = some r9) : CI l E yJ0_length_8abf5 cJ0_length_8abf5 1 (some .int) 1 [.ref (aS E)] (WJ0_length_8abf5 E) (WJ0_length_8abf5 E) r9 := by
  refine begI (by decide +kernel) (Nat.le_of_ble_eq_true rfl) ?_
  intro p e s m args below meth c A Q C hA hret
  have hx := C.1
  have hb := C.2.1
  intro H locs ls hl hP hD hS
  have hl : lv_has ls 1 [(0, .ref (aS E))] := hl
  unfold fJ0_length_8abf5 at hf
  refine lv_aload_n hx hb dJ0_length_8abf5_0 rfl (lv_at hl 0 rfl) ?_
  refine rs_val C hS q1955 dJ0_length_8abf5_1 ?_
  refine rs_len C hS dJ0_length_8abf5_4 ?_
  refine lv_aload_n hx hb dJ0_length_8abf5_5 rfl (lv_at hl 0 rfl) ?_
  obtain ⟨o1, hg2, hf⟩ := bd_some hf
  refine k_VIS (As := []) C rfl K_RJ0_335 (Nat.le_of_ble_eq_true rfl) (Nat.le_of_ble_eq_true rfl) (kJ0_coder_7d493 l E o1 hg2) hP hD hS hA hl.1 (Nat.le_of_ble_eq_true rfl) rfl dJ0_length_8abf5_6 (fun H locs hP hD hS => ?_)
  refine lv_ishr hx hb dJ0_length_8abf5_9 ?_
  have hj0 := Option.some.inj hf
  subst hj0
  exact hret _ _ _ _ dJ0_length_8abf5_10 rfl hP hD hS
theorem dJ1_canEncode_9a6ad_0 : decode cJ1_canEncode_9a6ad 0 = .ok (.iload_n 0, 1) := by decide +kernel
theorem dJ1_canEncode_9a6ad_1 : decode cJ1_canEncode_9a6ad 1 = .ok (.ifCond .lt 14, 3) := by decide +kernel
theorem dJ1_canEncode_9a6ad_4 : decode cJ1_canEncode_9a6ad 4 = .ok (.iload_n 0, 1) := by decide +kernel
theorem dJ1_canEncode_9a6ad_5 : decode cJ1_canEncode_9a6ad 5 = .ok (.sipush 255, 3) := by decide +kernel
theorem dJ1_canEncode_9a6ad_8 : decode cJ1_canEncode_9a6ad 8 = .ok (.if_icmp .gt 7, 3) := by decide +kernel
theorem dJ1_canEncode_9a6ad_11 : decode cJ1_canEncode_9a6ad 11 = .ok (.iconst 1, 1) := by decide +kernel
theorem dJ1_canEncode_9a6ad_12 : decode cJ1_canEncode_9a6ad 12 = .ok (.goto 4, 3) := by decide +kernel
theorem dJ1_canEncode_9a6ad_15 : decode cJ1_canEncode_9a6ad 15 = .ok (.iconst 0, 1) := by decide +kernel
theorem dJ1_canEncode_9a6ad_16 : decode cJ1_canEncode_9a6ad 16 = .ok (.ireturn, 1) := by decide +kernel
def WJ1_canEncode_9a6ad (E : ENV)  : va_W := []
set_option maxHeartbeats 4000000 in
set_option maxRecDepth 20000 in
theorem kJ1_canEncode_9a6ad (l : Launch) (E : ENV) (p0 : Int32) (r9 : Int32) (hf : fJ1_canEncode_9a6ad p0 = some r9) : CI l E yJ1_canEncode_9a6ad cJ1_canEncode_9a6ad 1 (some .boolean) 0 [.int p0] (WJ1_canEncode_9a6ad E) (WJ1_canEncode_9a6ad E) r9 := by
  refine begI (by decide +kernel) (Nat.le_of_ble_eq_true rfl) ?_
  intro p e s m args below meth c A Q C hA hret
  have hx := C.1
  have hb := C.2.1
  intro H locs ls hl hP hD hS
  have hl : lv_has ls 1 [(0, .int p0)] := hl
  unfold fJ1_canEncode_9a6ad at hf
  refine lv_iload_n hx hb dJ1_canEncode_9a6ad_0 rfl (lv_at hl 0 rfl) ?_
  refine lv_if_lt (tgt := 15) hx hb dJ1_canEncode_9a6ad_1 (by decide) (fun c1 => ?_) (fun c1 => ?_)
  · rw [if_pos c1] at hf
    refine lv_iconst (v := 0) hx hb dJ1_canEncode_9a6ad_15 (by decide) ?_
    have hj0 := Option.some.inj hf
    subst hj0
    exact hret _ _ _ _ dJ1_canEncode_9a6ad_16 rfl hP hD hS
  · rw [if_neg c1] at hf
    refine lv_iload_n hx hb dJ1_canEncode_9a6ad_4 rfl (lv_at hl 0 rfl) ?_
    refine lv_sipush (v := 255) hx hb dJ1_canEncode_9a6ad_5 (by decide) ?_
    refine lv_icmp_gt (tgt := 15) hx hb dJ1_canEncode_9a6ad_8 (by decide) (fun c2 => ?_) (fun c2 => ?_)
    · rw [if_pos c2] at hf
      refine lv_iconst (v := 0) hx hb dJ1_canEncode_9a6ad_15 (by decide) ?_
      have hj0 := Option.some.inj hf
      subst hj0
      exact hret _ _ _ _ dJ1_canEncode_9a6ad_16 rfl hP hD hS
    · rw [if_neg c2] at hf
      refine lv_iconst (v := 1) hx hb dJ1_canEncode_9a6ad_11 (by decide) ?_
      refine lv_goto (tgt := 16) hx hb dJ1_canEncode_9a6ad_12 (by decide) ?_
      have hj0 := Option.some.inj hf
      subst hj0
      exact hret _ _ _ _ dJ1_canEncode_9a6ad_16 rfl hP hD hS
theorem dJ1_indexOfChar_4cfef_0 : decode cJ1_indexOfChar_4cfef 0 = .ok (.iload_n 1, 1) := by decide +kernel
theorem dJ1_indexOfChar_4cfef_1 : decode cJ1_indexOfChar_4cfef 1 = .ok (.i2b, 1) := by decide +kernel
theorem dJ1_indexOfChar_4cfef_2 : decode cJ1_indexOfChar_4cfef 2 = .ok (.istore 4, 2) := by decide +kernel
theorem dJ1_indexOfChar_4cfef_4 : decode cJ1_indexOfChar_4cfef 4 = .ok (.iload_n 2, 1) := by decide +kernel
theorem dJ1_indexOfChar_4cfef_5 : decode cJ1_indexOfChar_4cfef 5 = .ok (.istore 5, 2) := by decide +kernel
theorem dJ1_indexOfChar_4cfef_7 : decode cJ1_indexOfChar_4cfef 7 = .ok (.iload 5, 2) := by decide +kernel
theorem dJ1_indexOfChar_4cfef_9 : decode cJ1_indexOfChar_4cfef 9 = .ok (.iload_n 3, 1) := by decide +kernel
theorem dJ1_indexOfChar_4cfef_10 : decode cJ1_indexOfChar_4cfef 10 = .ok (.if_icmp .ge 21, 3) := by decide +kernel
theorem dJ1_indexOfChar_4cfef_13 : decode cJ1_indexOfChar_4cfef 13 = .ok (.aload_n 0, 1) := by decide +kernel
theorem dJ1_indexOfChar_4cfef_14 : decode cJ1_indexOfChar_4cfef 14 = .ok (.iload 5, 2) := by decide +kernel
theorem dJ1_indexOfChar_4cfef_16 : decode cJ1_indexOfChar_4cfef 16 = .ok (.baload, 1) := by decide +kernel
theorem dJ1_indexOfChar_4cfef_17 : decode cJ1_indexOfChar_4cfef 17 = .ok (.iload 4, 2) := by decide +kernel
theorem dJ1_indexOfChar_4cfef_19 : decode cJ1_indexOfChar_4cfef 19 = .ok (.if_icmp .ne 6, 3) := by decide +kernel
theorem dJ1_indexOfChar_4cfef_22 : decode cJ1_indexOfChar_4cfef 22 = .ok (.iload 5, 2) := by decide +kernel
theorem dJ1_indexOfChar_4cfef_24 : decode cJ1_indexOfChar_4cfef 24 = .ok (.ireturn, 1) := by decide +kernel
theorem dJ1_indexOfChar_4cfef_25 : decode cJ1_indexOfChar_4cfef 25 = .ok (.iinc 5 1, 3) := by decide +kernel
theorem dJ1_indexOfChar_4cfef_28 : decode cJ1_indexOfChar_4cfef 28 = .ok (.goto (-21), 3) := by decide +kernel
theorem dJ1_indexOfChar_4cfef_31 : decode cJ1_indexOfChar_4cfef 31 = .ok (.iconst (-1), 1) := by decide +kernel
theorem dJ1_indexOfChar_4cfef_32 : decode cJ1_indexOfChar_4cfef 32 = .ok (.ireturn, 1) := by decide +kernel
def WJ1_indexOfChar_4cfef (E : ENV)  : va_W := []
set_option maxHeartbeats 4000000 in
set_option maxRecDepth 20000 in
theorem kJ1_indexOfChar_4cfef (l : Launch) (E : ENV) (p1 : Int32) (p2 : Int32) (p3 : Int32) (r9 : Int32) (hf : fJ1_indexOfChar_4cfef p1 p2 p3 = some r9) : CI l E yJ1_indexOfChar_4cfef cJ1_indexOfChar_4cfef 6 (some .int) 0 [.ref (aV E), .int p1, .int p2, .int p3] (WJ1_indexOfChar_4cfef E) (WJ1_indexOfChar_4cfef E) r9 := by
  refine begI (by decide +kernel) (Nat.le_of_ble_eq_true rfl) ?_
  intro p e s m args below meth c A Q C hA hret
  have hx := C.1
  have hb := C.2.1
  have L7 : ∀ (v4 : Int32), ∀ (n : Nat) (v5 : Int32) (o : (Unit) ⊕ (Int32)), fJ1_indexOfChar_4cfef_L7 p3 v4 n v5 = some o → (∀ x, o = Sum.inl x → GO p l e 0 s m args below meth c Q E A 6 31 [] [] (WJ1_indexOfChar_4cfef E)) → (∀ x, o = Sum.inr x → x = r9) → GO p l e 0 s m args below meth c Q E A 6 7 [] [(0, .ref (aV E)), (3, .int p3), (4, .int v4), (5, .int v5)] (WJ1_indexOfChar_4cfef E) := by
    intro v4
    intro n
    induction n with
    | zero =>
      intro v5 o hf
      have hf : none = some o := hf
      cases hf
    | succ n ih =>
      intro v5 o hf hE hR
      intro H locs ls hl hP hD hS
      rw [fJ1_indexOfChar_4cfef_L7] at hf
      refine lv_iload hx hb dJ1_indexOfChar_4cfef_7 (lv_at hl 3 rfl) ?_
      refine lv_iload_n hx hb dJ1_indexOfChar_4cfef_9 rfl (lv_at hl 1 rfl) ?_
      refine lv_icmp_ge (tgt := 31) hx hb dJ1_indexOfChar_4cfef_10 (by decide) (fun c1 => ?_) (fun c1 => ?_)
      · rw [if_pos c1] at hf
        have hf := Option.some.inj hf
        subst hf
        exact (hE _ rfl) _ _ _ (lv_sub hl [] rfl) hP hD hS
      · rw [if_neg c1] at hf
        refine lv_aload_n hx hb dJ1_indexOfChar_4cfef_13 rfl (lv_at hl 0 rfl) ?_
        refine lv_iload hx hb dJ1_indexOfChar_4cfef_14 (lv_at hl 3 rfl) ?_
        obtain ⟨g2, hf⟩ := gd_some hf
        refine rs_bal C hS (vin_in g2) dJ1_indexOfChar_4cfef_16 ?_
        refine lv_iload hx hb dJ1_indexOfChar_4cfef_17 (lv_at hl 2 rfl) ?_
        refine lv_icmp_ne (tgt := 25) hx hb dJ1_indexOfChar_4cfef_19 (by decide) (fun c3 => ?_) (fun c3 => ?_)
        · rw [if_neg c3] at hf
          refine lv_iinc (v := (v5 + 1)) (lv' := [(5, .int ((v5 + 1))), (0, .ref (aV E)), (3, .int p3), (4, .int v4)]) hx hb dJ1_indexOfChar_4cfef_25 hl (k := 3) rfl rfl (by decide) rfl (fun ls hl => ?_)
          refine lv_goto (tgt := 7) hx hb dJ1_indexOfChar_4cfef_28 (by decide) ?_
          exact ih ((v5 + 1)) _ hf hE hR _ _ _ (lv_sub hl [1, 2, 3, 0] rfl) hP hD hS
        · rw [if_pos c3] at hf
          refine lv_iload hx hb dJ1_indexOfChar_4cfef_22 (lv_at hl 3 rfl) ?_
          have hf := Option.some.inj hf
          subst hf
          have hj0 := hR _ rfl
          subst hj0
          exact hret _ _ _ _ dJ1_indexOfChar_4cfef_24 rfl hP hD hS
  intro H locs ls hl hP hD hS
  have hl : lv_has ls 6 [(0, .ref (aV E)), (1, .int p1), (2, .int p2), (3, .int p3)] := hl
  unfold fJ1_indexOfChar_4cfef at hf
  refine lv_iload_n hx hb dJ1_indexOfChar_4cfef_0 rfl (lv_at hl 1 rfl) ?_
  refine lv_i2b (v := ((p1).toInt8.toInt32)) hx hb dJ1_indexOfChar_4cfef_1 rfl ?_
  refine lv_istore (lv' := [(4, .int (((p1).toInt8.toInt32))), (0, .ref (aV E)), (1, .int p1), (2, .int p2), (3, .int p3)]) hx hb dJ1_indexOfChar_4cfef_2 hl (by decide) rfl (fun ls hl => ?_)
  refine lv_iload_n hx hb dJ1_indexOfChar_4cfef_4 rfl (lv_at hl 3 rfl) ?_
  refine lv_istore (lv' := [(5, .int p2), (4, .int (((p1).toInt8.toInt32))), (0, .ref (aV E)), (1, .int p1), (2, .int p2), (3, .int p3)]) hx hb dJ1_indexOfChar_4cfef_5 hl (by decide) rfl (fun ls hl => ?_)
  obtain ⟨o4, hg5, hf⟩ := bd_some hf
  refine L7 (((p1).toInt8.toInt32)) FU p2 o4 hg5 ?_ ?_ _ _ _ (lv_sub hl [2, 5, 1, 0] rfl) hP hD hS
  · intro x6 hxx
    rw [hxx, Sum.elim_inl] at hf
    intro H locs ls hl hP hD hS
    refine lv_iconst (v := (-1)) hx hb dJ1_indexOfChar_4cfef_31 (by decide) ?_
    have hj0 := Option.some.inj hf
    subst hj0
    exact hret _ _ _ _ dJ1_indexOfChar_4cfef_32 rfl hP hD hS
  · intro x hxx
    rw [hxx, Sum.elim_inr] at hf
    exact Option.some.inj hf
theorem K_RJ1_88 : KS RJ1 88 yJ1_canEncode_9a6ad cJ1_canEncode_9a6ad 1 (some .boolean) 1 := ⟨Tg_mem 629 (by decide +kernel) (by decide +kernel), Tg_mem 105 (by decide +kernel) (by decide +kernel), Tg_mem 627 (by decide +kernel) (by decide +kernel), Tg_mem 628 (by decide +kernel) (by decide +kernel), by decide +kernel⟩
theorem q630 : Cond.methodLink RJ1 92 Lib.Math.max.name ∈ Tg := Tg_mem 630 (by decide +kernel) (by decide +kernel)
theorem q631 : Cond.methodLink RJ1 38 Lib.Math.min.name ∈ Tg := Tg_mem 631 (by decide +kernel) (by decide +kernel)
theorem K_RJ1_95 : KS RJ1 95 yJ1_indexOfChar_4cfef cJ1_indexOfChar_4cfef 6 (some .int) 4 := ⟨Tg_mem 634 (by decide +kernel) (by decide +kernel), Tg_mem 105 (by decide +kernel) (by decide +kernel), Tg_mem 632 (by decide +kernel) (by decide +kernel), Tg_mem 633 (by decide +kernel) (by decide +kernel), by decide +kernel⟩
theorem dJ1_indexOf_4cfef_0 : decode cJ1_indexOf_4cfef 0 = .ok (.iload_n 1, 1) := by decide +kernel
theorem dJ1_indexOf_4cfef_1 : decode cJ1_indexOf_4cfef 1 = .ok (.invokestatic 88, 3) := by decide +kernel
theorem dJ1_indexOf_4cfef_4 : decode cJ1_indexOf_4cfef 4 = .ok (.ifCond .ne 5, 3) := by decide +kernel
theorem dJ1_indexOf_4cfef_7 : decode cJ1_indexOf_4cfef 7 = .ok (.iconst (-1), 1) := by decide +kernel
theorem dJ1_indexOf_4cfef_8 : decode cJ1_indexOf_4cfef 8 = .ok (.ireturn, 1) := by decide +kernel
theorem dJ1_indexOf_4cfef_9 : decode cJ1_indexOf_4cfef 9 = .ok (.iload_n 2, 1) := by decide +kernel
theorem dJ1_indexOf_4cfef_10 : decode cJ1_indexOf_4cfef 10 = .ok (.iconst 0, 1) := by decide +kernel
theorem dJ1_indexOf_4cfef_11 : decode cJ1_indexOf_4cfef 11 = .ok (.invokestatic 92, 3) := by decide +kernel
theorem dJ1_indexOf_4cfef_14 : decode cJ1_indexOf_4cfef 14 = .ok (.istore_n 2, 1) := by decide +kernel
theorem dJ1_indexOf_4cfef_15 : decode cJ1_indexOf_4cfef 15 = .ok (.iload_n 3, 1) := by decide +kernel
theorem dJ1_indexOf_4cfef_16 : decode cJ1_indexOf_4cfef 16 = .ok (.aload_n 0, 1) := by decide +kernel
theorem dJ1_indexOf_4cfef_17 : decode cJ1_indexOf_4cfef 17 = .ok (.arraylength, 1) := by decide +kernel
theorem dJ1_indexOf_4cfef_18 : decode cJ1_indexOf_4cfef 18 = .ok (.invokestatic 38, 3) := by decide +kernel
theorem dJ1_indexOf_4cfef_21 : decode cJ1_indexOf_4cfef 21 = .ok (.istore_n 3, 1) := by decide +kernel
theorem dJ1_indexOf_4cfef_22 : decode cJ1_indexOf_4cfef 22 = .ok (.iload_n 2, 1) := by decide +kernel
theorem dJ1_indexOf_4cfef_23 : decode cJ1_indexOf_4cfef 23 = .ok (.iload_n 3, 1) := by decide +kernel
theorem dJ1_indexOf_4cfef_24 : decode cJ1_indexOf_4cfef 24 = .ok (.if_icmp .lt 5, 3) := by decide +kernel
theorem dJ1_indexOf_4cfef_27 : decode cJ1_indexOf_4cfef 27 = .ok (.iconst (-1), 1) := by decide +kernel
theorem dJ1_indexOf_4cfef_28 : decode cJ1_indexOf_4cfef 28 = .ok (.ireturn, 1) := by decide +kernel
theorem dJ1_indexOf_4cfef_29 : decode cJ1_indexOf_4cfef 29 = .ok (.aload_n 0, 1) := by decide +kernel
theorem dJ1_indexOf_4cfef_30 : decode cJ1_indexOf_4cfef 30 = .ok (.iload_n 1, 1) := by decide +kernel
theorem dJ1_indexOf_4cfef_31 : decode cJ1_indexOf_4cfef 31 = .ok (.iload_n 2, 1) := by decide +kernel
theorem dJ1_indexOf_4cfef_32 : decode cJ1_indexOf_4cfef 32 = .ok (.iload_n 3, 1) := by decide +kernel
theorem dJ1_indexOf_4cfef_33 : decode cJ1_indexOf_4cfef 33 = .ok (.invokestatic 95, 3) := by decide +kernel
theorem dJ1_indexOf_4cfef_36 : decode cJ1_indexOf_4cfef 36 = .ok (.ireturn, 1) := by decide +kernel
def WJ1_indexOf_4cfef (E : ENV)  : va_W := []
set_option maxHeartbeats 4000000 in
set_option maxRecDepth 20000 in
theorem kJ1_indexOf_4cfef (l : Launch) (E : ENV) (p1 : Int32) (p2 : Int32) (p3 : Int32) (r9 : Int32) (hf : fJ1_indexOf_4cfef p1 p2 p3 = some r9) : CI l E yJ1_indexOf_4cfef cJ1_indexOf_4cfef 4 (some .int) 1 [.ref (aV E), .int p1, .int p2, .int p3] (WJ1_indexOf_4cfef E) (WJ1_indexOf_4cfef E) r9 := by
  refine begI (by decide +kernel) (Nat.le_of_ble_eq_true rfl) ?_
  intro p e s m args below meth c A Q C hA hret
  have hx := C.1
  have hb := C.2.1
  intro H locs ls hl hP hD hS
  have hl : lv_has ls 4 [(0, .ref (aV E)), (1, .int p1), (2, .int p2), (3, .int p3)] := hl
  unfold fJ1_indexOf_4cfef at hf
  refine lv_iload_n hx hb dJ1_indexOf_4cfef_0 rfl (lv_at hl 1 rfl) ?_
  obtain ⟨o1, hg2, hf⟩ := bd_some hf
  refine k_SI (As := [.int p1]) C K_RJ1_88 (Nat.le_of_ble_eq_true rfl) (Nat.le_of_ble_eq_true rfl) (kJ1_canEncode_9a6ad l E p1 o1 hg2) [] rfl rfl rfl  hP hD hS hA hl.1 (Nat.le_of_ble_eq_true rfl) rfl dJ1_indexOf_4cfef_1 (fun H locs hP hD hS => ?_)
  have hP : va_P E.1 classes (WJ1_indexOf_4cfef E) H := hP
  have hD : va_D A (WJ1_indexOf_4cfef E) := hD
  refine lv_if_ne (tgt := 9) hx hb dJ1_indexOf_4cfef_4 (by decide) (fun c3 => ?_) (fun c3 => ?_)
  · rw [if_neg c3] at hf
    refine lv_iload_n hx hb dJ1_indexOf_4cfef_9 rfl (lv_at hl 2 rfl) ?_
    refine lv_iconst (v := 0) hx hb dJ1_indexOf_4cfef_10 (by decide) ?_
    refine r_max C q630 (Nat.le_of_ble_eq_true rfl) hl.1 (Nat.le_of_ble_eq_true rfl) dJ1_indexOf_4cfef_11 ?_
    refine lv_istore_n (lv' := [(2, .int ((mx p2 0))), (0, .ref (aV E)), (1, .int p1), (3, .int p3)]) hx hb dJ1_indexOf_4cfef_14 rfl hl (by decide) rfl (fun ls hl => ?_)
    refine lv_iload_n hx hb dJ1_indexOf_4cfef_15 rfl (lv_at hl 3 rfl) ?_
    refine lv_aload_n hx hb dJ1_indexOf_4cfef_16 rfl (lv_at hl 1 rfl) ?_
    refine rs_len C hS dJ1_indexOf_4cfef_17 ?_
    refine r_min C q631 (Nat.le_of_ble_eq_true rfl) hl.1 (Nat.le_of_ble_eq_true rfl) dJ1_indexOf_4cfef_18 ?_
    refine lv_istore_n (lv' := [(3, .int ((mn p3 8))), (2, .int ((mx p2 0))), (0, .ref (aV E)), (1, .int p1)]) hx hb dJ1_indexOf_4cfef_21 rfl hl (by decide) rfl (fun ls hl => ?_)
    refine lv_iload_n hx hb dJ1_indexOf_4cfef_22 rfl (lv_at hl 1 rfl) ?_
    refine lv_iload_n hx hb dJ1_indexOf_4cfef_23 rfl (lv_at hl 0 rfl) ?_
    refine lv_icmp_lt (tgt := 29) hx hb dJ1_indexOf_4cfef_24 (by decide) (fun c4 => ?_) (fun c4 => ?_)
    · rw [if_pos c4] at hf
      refine lv_aload_n hx hb dJ1_indexOf_4cfef_29 rfl (lv_at hl 2 rfl) ?_
      refine lv_iload_n hx hb dJ1_indexOf_4cfef_30 rfl (lv_at hl 3 rfl) ?_
      refine lv_iload_n hx hb dJ1_indexOf_4cfef_31 rfl (lv_at hl 1 rfl) ?_
      refine lv_iload_n hx hb dJ1_indexOf_4cfef_32 rfl (lv_at hl 0 rfl) ?_
      obtain ⟨o5, hg6, hf⟩ := bd_some hf
      refine k_SI (As := [.ref (aV E), .int p1, .int ((mx p2 0)), .int ((mn p3 8))]) C K_RJ1_95 (Nat.le_of_ble_eq_true rfl) (Nat.le_of_ble_eq_true rfl) (kJ1_indexOfChar_4cfef l E p1 ((mx p2 0)) ((mn p3 8)) o5 hg6) [] rfl rfl rfl  hP hD hS hA hl.1 (Nat.le_of_ble_eq_true rfl) rfl dJ1_indexOf_4cfef_33 (fun H locs hP hD hS => ?_)
      have hP : va_P E.1 classes (WJ1_indexOf_4cfef E) H := hP
      have hD : va_D A (WJ1_indexOf_4cfef E) := hD
      have hj0 := Option.some.inj hf
      subst hj0
      exact hret _ _ _ _ dJ1_indexOf_4cfef_36 rfl hP hD hS
    · rw [if_neg c4] at hf
      refine lv_iconst (v := (-1)) hx hb dJ1_indexOf_4cfef_27 (by decide) ?_
      have hj0 := Option.some.inj hf
      subst hj0
      exact hret _ _ _ _ dJ1_indexOf_4cfef_28 rfl hP hD hS
  · rw [if_pos c3] at hf
    refine lv_iconst (v := (-1)) hx hb dJ1_indexOf_4cfef_7 (by decide) ?_
    have hj0 := Option.some.inj hf
    subst hj0
    exact hret _ _ _ _ dJ1_indexOf_4cfef_8 rfl hP hD hS
theorem K_RJ0_492 : KV RJ0 492 yJ0_isLatin1_aae02 cJ0_isLatin1_aae02 1 (some .boolean) 0 := ⟨Tg_mem 613 (by decide +kernel) (by decide +kernel), Tg_mem 104 (by decide +kernel) (by decide +kernel), Tg_mem 610 (by decide +kernel) (by decide +kernel), Tg_mem 611 (by decide +kernel) (by decide +kernel), Tg_mem 612 (by decide +kernel) (by decide +kernel), by decide +kernel⟩
theorem K_RJ0_505 : KV RJ0 505 yJ0_length_8abf5 cJ0_length_8abf5 1 (some .int) 0 := ⟨Tg_mem 619 (by decide +kernel) (by decide +kernel), Tg_mem 104 (by decide +kernel) (by decide +kernel), Tg_mem 616 (by decide +kernel) (by decide +kernel), Tg_mem 617 (by decide +kernel) (by decide +kernel), Tg_mem 618 (by decide +kernel) (by decide +kernel), by decide +kernel⟩
theorem K_RJ0_637 : KS RJ0 637 yJ1_indexOf_4cfef cJ1_indexOf_4cfef 4 (some .int) 4 := ⟨Tg_mem 626 (by decide +kernel) (by decide +kernel), Tg_mem 105 (by decide +kernel) (by decide +kernel), Tg_mem 624 (by decide +kernel) (by decide +kernel), Tg_mem 625 (by decide +kernel) (by decide +kernel), by decide +kernel⟩
theorem dJ0_indexOf_7cf53_0 : decode cJ0_indexOf_7cf53 0 = .ok (.aload_n 0, 1) := by decide +kernel
theorem dJ0_indexOf_7cf53_1 : decode cJ0_indexOf_7cf53 1 = .ok (.invokevirtual 492, 3) := by decide +kernel
theorem dJ0_indexOf_7cf53_4 : decode cJ0_indexOf_7cf53 4 = .ok (.ifCond .eq 19, 3) := by decide +kernel
theorem dJ0_indexOf_7cf53_7 : decode cJ0_indexOf_7cf53 7 = .ok (.aload_n 0, 1) := by decide +kernel
theorem dJ0_indexOf_7cf53_8 : decode cJ0_indexOf_7cf53 8 = .ok (.getfield 9, 3) := by decide +kernel
theorem dJ0_indexOf_7cf53_11 : decode cJ0_indexOf_7cf53 11 = .ok (.iload_n 1, 1) := by decide +kernel
theorem dJ0_indexOf_7cf53_12 : decode cJ0_indexOf_7cf53 12 = .ok (.iload_n 2, 1) := by decide +kernel
theorem dJ0_indexOf_7cf53_13 : decode cJ0_indexOf_7cf53 13 = .ok (.aload_n 0, 1) := by decide +kernel
theorem dJ0_indexOf_7cf53_14 : decode cJ0_indexOf_7cf53 14 = .ok (.invokevirtual 505, 3) := by decide +kernel
theorem dJ0_indexOf_7cf53_17 : decode cJ0_indexOf_7cf53 17 = .ok (.invokestatic 637, 3) := by decide +kernel
theorem dJ0_indexOf_7cf53_20 : decode cJ0_indexOf_7cf53 20 = .ok (.goto 16, 3) := by decide +kernel
theorem dJ0_indexOf_7cf53_23 : decode cJ0_indexOf_7cf53 23 = .ok (.aload_n 0, 1) := by decide +kernel
theorem dJ0_indexOf_7cf53_24 : decode cJ0_indexOf_7cf53 24 = .ok (.getfield 9, 3) := by decide +kernel
theorem dJ0_indexOf_7cf53_27 : decode cJ0_indexOf_7cf53 27 = .ok (.iload_n 1, 1) := by decide +kernel
theorem dJ0_indexOf_7cf53_28 : decode cJ0_indexOf_7cf53 28 = .ok (.iload_n 2, 1) := by decide +kernel
theorem dJ0_indexOf_7cf53_29 : decode cJ0_indexOf_7cf53 29 = .ok (.aload_n 0, 1) := by decide +kernel
theorem dJ0_indexOf_7cf53_30 : decode cJ0_indexOf_7cf53 30 = .ok (.invokevirtual 505, 3) := by decide +kernel
theorem dJ0_indexOf_7cf53_33 : decode cJ0_indexOf_7cf53 33 = .ok (.invokestatic 640, 3) := by decide +kernel
theorem dJ0_indexOf_7cf53_36 : decode cJ0_indexOf_7cf53 36 = .ok (.ireturn, 1) := by decide +kernel
def WJ0_indexOf_7cf53 (E : ENV)  : va_W := []
set_option maxHeartbeats 4000000 in
set_option maxRecDepth 20000 in
theorem kJ0_indexOf_7cf53 (l : Launch) (E : ENV) (p1 : Int32) (p2 : Int32) (r9 : Int32) (hf : fJ0_indexOf_7cf53 p1 p2 = some r9) : CI l E yJ0_indexOf_7cf53 cJ0_indexOf_7cf53 3 (some .int) 2 [.ref (aS E), .int p1, .int p2] (WJ0_indexOf_7cf53 E) (WJ0_indexOf_7cf53 E) r9 := by
  refine begI (by decide +kernel) (Nat.le_of_ble_eq_true rfl) ?_
  intro p e s m args below meth c A Q C hA hret
  have hx := C.1
  have hb := C.2.1
  intro H locs ls hl hP hD hS
  have hl : lv_has ls 3 [(0, .ref (aS E)), (1, .int p1), (2, .int p2)] := hl
  unfold fJ0_indexOf_7cf53 at hf
  refine lv_aload_n hx hb dJ0_indexOf_7cf53_0 rfl (lv_at hl 0 rfl) ?_
  obtain ⟨o1, hg2, hf⟩ := bd_some hf
  refine k_VIS (As := []) C rfl K_RJ0_492 (Nat.le_of_ble_eq_true rfl) (Nat.le_of_ble_eq_true rfl) (kJ0_isLatin1_aae02 l E o1 hg2) hP hD hS hA hl.1 (Nat.le_of_ble_eq_true rfl) rfl dJ0_indexOf_7cf53_1 (fun H locs hP hD hS => ?_)
  refine lv_if_eq (tgt := 23) hx hb dJ0_indexOf_7cf53_4 (by decide) (fun c3 => ?_) (fun c3 => ?_)
  · rw [if_pos c3] at hf
    refine lv_aload_n hx hb dJ0_indexOf_7cf53_23 rfl (lv_at hl 0 rfl) ?_
    refine rs_val C hS q1955 dJ0_indexOf_7cf53_24 ?_
    refine lv_iload_n hx hb dJ0_indexOf_7cf53_27 rfl (lv_at hl 1 rfl) ?_
    refine lv_iload_n hx hb dJ0_indexOf_7cf53_28 rfl (lv_at hl 2 rfl) ?_
    refine lv_aload_n hx hb dJ0_indexOf_7cf53_29 rfl (lv_at hl 0 rfl) ?_
    obtain ⟨o4, hg5, hf⟩ := bd_some hf
    refine k_VIS (As := []) C rfl K_RJ0_505 (Nat.le_of_ble_eq_true rfl) (Nat.le_of_ble_eq_true rfl) (kJ0_length_8abf5 l E o4 hg5) hP hD hS hA hl.1 (Nat.le_of_ble_eq_true rfl) rfl dJ0_indexOf_7cf53_30 (fun H locs hP hD hS => ?_)
    cases hf
  · rw [if_neg c3] at hf
    refine lv_aload_n hx hb dJ0_indexOf_7cf53_7 rfl (lv_at hl 0 rfl) ?_
    refine rs_val C hS q1955 dJ0_indexOf_7cf53_8 ?_
    refine lv_iload_n hx hb dJ0_indexOf_7cf53_11 rfl (lv_at hl 1 rfl) ?_
    refine lv_iload_n hx hb dJ0_indexOf_7cf53_12 rfl (lv_at hl 2 rfl) ?_
    refine lv_aload_n hx hb dJ0_indexOf_7cf53_13 rfl (lv_at hl 0 rfl) ?_
    obtain ⟨o6, hg7, hf⟩ := bd_some hf
    refine k_VIS (As := []) C rfl K_RJ0_505 (Nat.le_of_ble_eq_true rfl) (Nat.le_of_ble_eq_true rfl) (kJ0_length_8abf5 l E o6 hg7) hP hD hS hA hl.1 (Nat.le_of_ble_eq_true rfl) rfl dJ0_indexOf_7cf53_14 (fun H locs hP hD hS => ?_)
    obtain ⟨o8, hg9, hf⟩ := bd_some hf
    refine k_SI (As := [.ref (aV E), .int p1, .int p2, .int o6]) C K_RJ0_637 (Nat.le_of_ble_eq_true rfl) (Nat.le_of_ble_eq_true rfl) (kJ1_indexOf_4cfef l E p1 p2 o6 o8 hg9) [] rfl rfl rfl  hP hD hS hA hl.1 (Nat.le_of_ble_eq_true rfl) rfl dJ0_indexOf_7cf53_17 (fun H locs hP hD hS => ?_)
    have hP : va_P E.1 classes (WJ0_indexOf_7cf53 E) H := hP
    have hD : va_D A (WJ0_indexOf_7cf53 E) := hD
    refine lv_goto (tgt := 36) hx hb dJ0_indexOf_7cf53_20 (by decide) ?_
    have hj0 := Option.some.inj hf
    subst hj0
    exact hret _ _ _ _ dJ0_indexOf_7cf53_36 rfl hP hD hS
theorem K_RJ0_633 : KV RJ0 633 yJ0_indexOf_7cf53 cJ0_indexOf_7cf53 3 (some .int) 2 := ⟨Tg_mem 609 (by decide +kernel) (by decide +kernel), Tg_mem 104 (by decide +kernel) (by decide +kernel), Tg_mem 606 (by decide +kernel) (by decide +kernel), Tg_mem 607 (by decide +kernel) (by decide +kernel), Tg_mem 608 (by decide +kernel) (by decide +kernel), by decide +kernel⟩
theorem dJ0_indexOf_0f7a4_0 : decode cJ0_indexOf_0f7a4 0 = .ok (.aload_n 0, 1) := by decide +kernel
theorem dJ0_indexOf_0f7a4_1 : decode cJ0_indexOf_0f7a4 1 = .ok (.iload_n 1, 1) := by decide +kernel
theorem dJ0_indexOf_0f7a4_2 : decode cJ0_indexOf_0f7a4 2 = .ok (.iconst 0, 1) := by decide +kernel
theorem dJ0_indexOf_0f7a4_3 : decode cJ0_indexOf_0f7a4 3 = .ok (.invokevirtual 633, 3) := by decide +kernel
theorem dJ0_indexOf_0f7a4_6 : decode cJ0_indexOf_0f7a4 6 = .ok (.ireturn, 1) := by decide +kernel
def WJ0_indexOf_0f7a4 (E : ENV)  : va_W := []
set_option maxHeartbeats 4000000 in
set_option maxRecDepth 20000 in
theorem kJ0_indexOf_0f7a4 (l : Launch) (E : ENV) (p1 : Int32) (r9 : Int32) (hf : fJ0_indexOf_0f7a4 p1 = some r9) : CI l E yJ0_indexOf_0f7a4 cJ0_indexOf_0f7a4 2 (some .int) 3 [.ref (aS E), .int p1] (WJ0_indexOf_0f7a4 E) (WJ0_indexOf_0f7a4 E) r9 := by
  refine begI (by decide +kernel) (Nat.le_of_ble_eq_true rfl) ?_
  intro p e s m args below meth c A Q C hA hret
  have hx := C.1
  have hb := C.2.1
  intro H locs ls hl hP hD hS
  have hl : lv_has ls 2 [(0, .ref (aS E)), (1, .int p1)] := hl
  unfold fJ0_indexOf_0f7a4 at hf
  refine lv_aload_n hx hb dJ0_indexOf_0f7a4_0 rfl (lv_at hl 0 rfl) ?_
  refine lv_iload_n hx hb dJ0_indexOf_0f7a4_1 rfl (lv_at hl 1 rfl) ?_
  refine lv_iconst (v := 0) hx hb dJ0_indexOf_0f7a4_2 (by decide) ?_
  obtain ⟨o1, hg2, hf⟩ := bd_some hf
  refine k_VIS (As := [.int p1, .int 0]) C rfl K_RJ0_633 (Nat.le_of_ble_eq_true rfl) (Nat.le_of_ble_eq_true rfl) (kJ0_indexOf_7cf53 l E p1 0 o1 hg2) hP hD hS hA hl.1 (Nat.le_of_ble_eq_true rfl) rfl dJ0_indexOf_0f7a4_3 (fun H locs hP hD hS => ?_)
  have hj0 := Option.some.inj hf
  subst hj0
  exact hret _ _ _ _ dJ0_indexOf_0f7a4_6 rfl hP hD hS
theorem K_RX4_55 : KV RX4 55 yX4_readSum cX4_readSum 6 (some .boolean) 2 := ⟨Tg_mem 580 (by decide +kernel) (by decide +kernel), Tg_mem 94 (by decide +kernel) (by decide +kernel), Tg_mem 577 (by decide +kernel) (by decide +kernel), Tg_mem 579 (by decide +kernel) (by decide +kernel), Tg_mem 4 (by decide +kernel) (by decide +kernel), by decide +kernel⟩
theorem K_RX4_58 : KV RX4 58 yX6_peek cX6_peek 1 (some .int) 0 := ⟨Tg_mem 511 (by decide +kernel) (by decide +kernel), Tg_mem 91 (by decide +kernel) (by decide +kernel), Tg_mem 594 (by decide +kernel) (by decide +kernel), Tg_mem 509 (by decide +kernel) (by decide +kernel), Tg_mem 510 (by decide +kernel) (by decide +kernel), by decide +kernel⟩
theorem K_RX4_61 : KV RX4 61 yX6_skip cX6_skip 1 none 0 := ⟨Tg_mem 558 (by decide +kernel) (by decide +kernel), Tg_mem 91 (by decide +kernel) (by decide +kernel), Tg_mem 595 (by decide +kernel) (by decide +kernel), Tg_mem 556 (by decide +kernel) (by decide +kernel), Tg_mem 557 (by decide +kernel) (by decide +kernel), by decide +kernel⟩
theorem K_RX4_64 : KV RX4 64 yX4_put cX4_put 2 none 1 := ⟨Tg_mem 600 (by decide +kernel) (by decide +kernel), Tg_mem 94 (by decide +kernel) (by decide +kernel), Tg_mem 597 (by decide +kernel) (by decide +kernel), Tg_mem 599 (by decide +kernel) (by decide +kernel), Tg_mem 8 (by decide +kernel) (by decide +kernel), by decide +kernel⟩
theorem dX4_readComparison_0 : decode cX4_readComparison 0 = .ok (.aload_n 0, 1) := by decide +kernel
theorem dX4_readComparison_1 : decode cX4_readComparison 1 = .ok (.aload_n 1, 1) := by decide +kernel
theorem dX4_readComparison_2 : decode cX4_readComparison 2 = .ok (.iload_n 2, 1) := by decide +kernel
theorem dX4_readComparison_3 : decode cX4_readComparison 3 = .ok (.invokevirtual 55, 3) := by decide +kernel
theorem dX4_readComparison_6 : decode cX4_readComparison 6 = .ok (.ifCond .ne 5, 3) := by decide +kernel
theorem dX4_readComparison_9 : decode cX4_readComparison 9 = .ok (.iconst 0, 1) := by decide +kernel
theorem dX4_readComparison_10 : decode cX4_readComparison 10 = .ok (.ireturn, 1) := by decide +kernel
theorem dX4_readComparison_11 : decode cX4_readComparison 11 = .ok (.aload_n 1, 1) := by decide +kernel
theorem dX4_readComparison_12 : decode cX4_readComparison 12 = .ok (.invokevirtual 58, 3) := by decide +kernel
theorem dX4_readComparison_15 : decode cX4_readComparison 15 = .ok (.istore_n 3, 1) := by decide +kernel
theorem dX4_readComparison_16 : decode cX4_readComparison 16 = .ok (.iload_n 3, 1) := by decide +kernel
theorem dX4_readComparison_17 : decode cX4_readComparison 17 = .ok (.bipush 60, 2) := by decide +kernel
theorem dX4_readComparison_19 : decode cX4_readComparison 19 = .ok (.if_icmp .eq 17, 3) := by decide +kernel
theorem dX4_readComparison_22 : decode cX4_readComparison 22 = .ok (.iload_n 3, 1) := by decide +kernel
theorem dX4_readComparison_23 : decode cX4_readComparison 23 = .ok (.bipush 62, 2) := by decide +kernel
theorem dX4_readComparison_25 : decode cX4_readComparison 25 = .ok (.if_icmp .eq 11, 3) := by decide +kernel
theorem dX4_readComparison_28 : decode cX4_readComparison 28 = .ok (.iload_n 3, 1) := by decide +kernel
theorem dX4_readComparison_29 : decode cX4_readComparison 29 = .ok (.bipush 61, 2) := by decide +kernel
theorem dX4_readComparison_31 : decode cX4_readComparison 31 = .ok (.if_icmp .eq 5, 3) := by decide +kernel
theorem dX4_readComparison_34 : decode cX4_readComparison 34 = .ok (.iconst 1, 1) := by decide +kernel
theorem dX4_readComparison_35 : decode cX4_readComparison 35 = .ok (.ireturn, 1) := by decide +kernel
theorem dX4_readComparison_36 : decode cX4_readComparison 36 = .ok (.aload_n 1, 1) := by decide +kernel
theorem dX4_readComparison_37 : decode cX4_readComparison 37 = .ok (.invokevirtual 61, 3) := by decide +kernel
theorem dX4_readComparison_40 : decode cX4_readComparison 40 = .ok (.aload_n 0, 1) := by decide +kernel
theorem dX4_readComparison_41 : decode cX4_readComparison 41 = .ok (.aload_n 1, 1) := by decide +kernel
theorem dX4_readComparison_42 : decode cX4_readComparison 42 = .ok (.iload_n 2, 1) := by decide +kernel
theorem dX4_readComparison_43 : decode cX4_readComparison 43 = .ok (.invokevirtual 55, 3) := by decide +kernel
theorem dX4_readComparison_46 : decode cX4_readComparison 46 = .ok (.ifCond .ne 5, 3) := by decide +kernel
theorem dX4_readComparison_49 : decode cX4_readComparison 49 = .ok (.iconst 0, 1) := by decide +kernel
theorem dX4_readComparison_50 : decode cX4_readComparison 50 = .ok (.ireturn, 1) := by decide +kernel
theorem dX4_readComparison_51 : decode cX4_readComparison 51 = .ok (.aload_n 0, 1) := by decide +kernel
theorem dX4_readComparison_52 : decode cX4_readComparison 52 = .ok (.sipush 2000, 3) := by decide +kernel
theorem dX4_readComparison_55 : decode cX4_readComparison 55 = .ok (.iload_n 3, 1) := by decide +kernel
theorem dX4_readComparison_56 : decode cX4_readComparison 56 = .ok (.iadd, 1) := by decide +kernel
theorem dX4_readComparison_57 : decode cX4_readComparison 57 = .ok (.invokevirtual 64, 3) := by decide +kernel
theorem dX4_readComparison_60 : decode cX4_readComparison 60 = .ok (.iconst 1, 1) := by decide +kernel
theorem dX4_readComparison_61 : decode cX4_readComparison 61 = .ok (.ireturn, 1) := by decide +kernel
def WX4_readComparison (E : ENV) (q0 : Nat) (q0_code : Nat) (q0_draft : Nat) (q0_stack : Nat) (q0_things : Nat) (q1 : Nat) (q1_signs : Nat) (i_length : Int32) (i_drafted : Int32) (a_draft : Nat → Int32) (i_p1_length : Int32) (i_p1_place : Int32) (i_p1_limit : Int32) (a_p1_signs : Nat → Int32) : va_W := [(q0, .inr (4, [.ref q0_code, .ref q0_draft, .ref q0_stack, .ref q0_things, .int i_length, .int i_drafted])), (q0_draft, .inl (E.2.1, 40, .inl a_draft)), (q1, .inr (6, [.ref q1_signs, .int i_p1_length, .int i_p1_place, .int i_p1_limit])), (q1_signs, .inl (E.2.1, 80, .inl a_p1_signs))]
set_option maxHeartbeats 4000000 in
set_option maxRecDepth 20000 in
theorem kX4_readComparison_B (l : Launch) (E : ENV) (d : Nat) (hd9 : 4 ≤ d) (G : Nat → Int32 → (Nat → Int32) → Int32 → Int32 → (Nat → Int32) → Int32 → Option (Int32 × Int32 × (Nat → Int32) × Int32)) (hG1 : ∀ (q0 : Nat) (q0_code : Nat) (q0_draft : Nat) (q0_stack : Nat) (q0_things : Nat) (q1 : Nat) (q1_signs : Nat) (i_length : Int32) (i_drafted : Int32) (a_draft : Nat → Int32) (i_p1_length : Int32) (i_p1_place : Int32) (i_p1_limit : Int32) (a_p1_signs : Nat → Int32) (p2 : Int32) (r9 : Int32) (i_drafted9 : Int32) (a_draft9 : Nat → Int32) (i_p1_place9 : Int32), G 1 i_drafted a_draft i_p1_place i_p1_limit a_p1_signs p2 = some (r9, i_drafted9, a_draft9, i_p1_place9) → CI l E yX4_readSum cX4_readSum 6 (some .boolean) d [.ref q0, .ref q1, .int p2] (WX4_readComparison E q0 q0_code q0_draft q0_stack q0_things q1 q1_signs i_length i_drafted a_draft i_p1_length i_p1_place i_p1_limit a_p1_signs) (WX4_readComparison E q0 q0_code q0_draft q0_stack q0_things q1 q1_signs i_length i_drafted9 a_draft9 i_p1_length i_p1_place9 i_p1_limit a_p1_signs) r9) (q0 : Nat) (q0_code : Nat) (q0_draft : Nat) (q0_stack : Nat) (q0_things : Nat) (q1 : Nat) (q1_signs : Nat) (i_length : Int32) (i_drafted : Int32) (a_draft : Nat → Int32) (i_p1_length : Int32) (i_p1_place : Int32) (i_p1_limit : Int32) (a_p1_signs : Nat → Int32) (p2 : Int32) (r9 : Int32) (i_drafted9 : Int32) (a_draft9 : Nat → Int32) (i_p1_place9 : Int32) (hf : fX4_readComparison_B G i_drafted a_draft i_p1_place i_p1_limit a_p1_signs p2 = some (r9, i_drafted9, a_draft9, i_p1_place9)) : CI l E yX4_readComparison cX4_readComparison 4 (some .boolean) (d + 1) [.ref q0, .ref q1, .int p2] (WX4_readComparison E q0 q0_code q0_draft q0_stack q0_things q1 q1_signs i_length i_drafted a_draft i_p1_length i_p1_place i_p1_limit a_p1_signs) (WX4_readComparison E q0 q0_code q0_draft q0_stack q0_things q1 q1_signs i_length i_drafted9 a_draft9 i_p1_length i_p1_place9 i_p1_limit a_p1_signs) r9 := by
  refine begI (by decide +kernel) (Nat.le_of_ble_eq_true rfl) ?_
  intro p e s m args below meth c A Q C hA hret
  have hx := C.1
  have hb := C.2.1
  have J36 : ∀ (v3 : Int32) (i_drafted : Int32) (a_draft : Nat → Int32) (i_p1_place : Int32), fX4_readComparison_J36 G i_p1_limit a_p1_signs p2 v3 i_drafted a_draft i_p1_place = some (r9, i_drafted9, a_draft9, i_p1_place9) → GO p l e (d + 1) s m args below meth c Q E A 4 36 [] [(0, .ref q0), (1, .ref q1), (2, .int p2), (3, .int v3)] (WX4_readComparison E q0 q0_code q0_draft q0_stack q0_things q1 q1_signs i_length i_drafted a_draft i_p1_length i_p1_place i_p1_limit a_p1_signs) := by
    intro v3 i_drafted a_draft i_p1_place hf H locs ls hl hP hD hS
    unfold fX4_readComparison_J36 at hf
    refine lv_aload_n hx hb dX4_readComparison_36 rfl (lv_at hl 1 rfl) ?_
    obtain ⟨o7, hg8, hf⟩ := bd_some hf
    refine k_VV (As := []) C K_RX4_61 (by omega) (Nat.le_of_ble_eq_true rfl) (kX6_skip l E q1 q1_signs i_p1_length i_p1_place i_p1_limit o7 hg8) [2] rfl rfl rfl (ci := 6) rfl rfl (q0 := 0) rfl hP hD hS hA hl.1 (Nat.le_of_ble_eq_true rfl) rfl dX4_readComparison_37 (fun H locs hP hD hS => ?_)
    have hP : va_P E.1 classes (WX4_readComparison E q0 q0_code q0_draft q0_stack q0_things q1 q1_signs i_length i_drafted a_draft i_p1_length o7 i_p1_limit a_p1_signs) H := hP
    have hD : va_D A (WX4_readComparison E q0 q0_code q0_draft q0_stack q0_things q1 q1_signs i_length i_drafted a_draft i_p1_length o7 i_p1_limit a_p1_signs) := hD
    refine lv_aload_n hx hb dX4_readComparison_40 rfl (lv_at hl 0 rfl) ?_
    refine lv_aload_n hx hb dX4_readComparison_41 rfl (lv_at hl 1 rfl) ?_
    refine lv_iload_n hx hb dX4_readComparison_42 rfl (lv_at hl 2 rfl) ?_
    obtain ⟨o9, hg10, hf⟩ := bd_some hf
    refine k_VI (As := [.ref q1, .int p2]) C K_RX4_55 (Nat.lt_succ_self d) (Nat.le_of_ble_eq_true rfl) (hG1 q0 q0_code q0_draft q0_stack q0_things q1 q1_signs i_length i_drafted a_draft i_p1_length o7 i_p1_limit a_p1_signs p2 o9.1 o9.2.1 o9.2.2.1 o9.2.2.2 hg10) [0, 1, 2, 3] rfl rfl rfl (ci := 4) rfl rfl (q0 := 0) rfl hP hD hS hA hl.1 (Nat.le_of_ble_eq_true rfl) rfl dX4_readComparison_43 (fun H locs hP hD hS => ?_)
    have hP : va_P E.1 classes (WX4_readComparison E q0 q0_code q0_draft q0_stack q0_things q1 q1_signs i_length o9.2.1 o9.2.2.1 i_p1_length o9.2.2.2 i_p1_limit a_p1_signs) H := hP
    have hD : va_D A (WX4_readComparison E q0 q0_code q0_draft q0_stack q0_things q1 q1_signs i_length o9.2.1 o9.2.2.1 i_p1_length o9.2.2.2 i_p1_limit a_p1_signs) := hD
    refine lv_if_ne (tgt := 51) hx hb dX4_readComparison_46 (by decide) (fun c11 => ?_) (fun c11 => ?_)
    · rw [if_neg c11] at hf
      refine lv_aload_n hx hb dX4_readComparison_51 rfl (lv_at hl 0 rfl) ?_
      refine lv_sipush (v := 2000) hx hb dX4_readComparison_52 (by decide) ?_
      refine lv_iload_n hx hb dX4_readComparison_55 rfl (lv_at hl 3 rfl) ?_
      refine lv_iadd hx hb dX4_readComparison_56 ?_
      obtain ⟨o12, hg13, hf⟩ := bd_some hf
      refine k_VV (As := [.int ((2000 + v3))]) C K_RX4_64 (by omega) (Nat.le_of_ble_eq_true rfl) (kX4_put l E q0 q0_code q0_draft q0_stack q0_things i_length o9.2.1 o9.2.2.1 ((2000 + v3)) o12.1 o12.2 hg13) [0, 1] rfl rfl rfl (ci := 4) rfl rfl (q0 := 0) rfl hP hD hS hA hl.1 (Nat.le_of_ble_eq_true rfl) rfl dX4_readComparison_57 (fun H locs hP hD hS => ?_)
      have hP : va_P E.1 classes (WX4_readComparison E q0 q0_code q0_draft q0_stack q0_things q1 q1_signs i_length o12.1 o12.2 i_p1_length o9.2.2.2 i_p1_limit a_p1_signs) H := hP
      have hD : va_D A (WX4_readComparison E q0 q0_code q0_draft q0_stack q0_things q1 q1_signs i_length o12.1 o12.2 i_p1_length o9.2.2.2 i_p1_limit a_p1_signs) := hD
      refine lv_iconst (v := 1) hx hb dX4_readComparison_60 (by decide) ?_
      have hj0 := Option.some.inj hf
      obtain ⟨ha0, hj1⟩ := Prod.mk.inj hj0
      obtain ⟨ha1, hj2⟩ := Prod.mk.inj hj1
      obtain ⟨ha2, hj3⟩ := Prod.mk.inj hj2
      subst ha0
      subst ha1
      subst ha2
      subst hj3
      exact hret _ _ _ _ dX4_readComparison_61 rfl hP hD hS
    · rw [if_pos c11] at hf
      refine lv_iconst (v := 0) hx hb dX4_readComparison_49 (by decide) ?_
      have hj0 := Option.some.inj hf
      obtain ⟨ha0, hj1⟩ := Prod.mk.inj hj0
      obtain ⟨ha1, hj2⟩ := Prod.mk.inj hj1
      obtain ⟨ha2, hj3⟩ := Prod.mk.inj hj2
      subst ha0
      subst ha1
      subst ha2
      subst hj3
      exact hret _ _ _ _ dX4_readComparison_50 rfl hP hD hS
  intro H locs ls hl hP hD hS
  have hl : lv_has ls 4 [(0, .ref q0), (1, .ref q1), (2, .int p2)] := hl
  unfold fX4_readComparison_B at hf
  refine lv_aload_n hx hb dX4_readComparison_0 rfl (lv_at hl 0 rfl) ?_
  refine lv_aload_n hx hb dX4_readComparison_1 rfl (lv_at hl 1 rfl) ?_
  refine lv_iload_n hx hb dX4_readComparison_2 rfl (lv_at hl 2 rfl) ?_
  obtain ⟨o1, hg2, hf⟩ := bd_some hf
  refine k_VI (As := [.ref q1, .int p2]) C K_RX4_55 (Nat.lt_succ_self d) (Nat.le_of_ble_eq_true rfl) (hG1 q0 q0_code q0_draft q0_stack q0_things q1 q1_signs i_length i_drafted a_draft i_p1_length i_p1_place i_p1_limit a_p1_signs p2 o1.1 o1.2.1 o1.2.2.1 o1.2.2.2 hg2) [0, 1, 2, 3] rfl rfl rfl (ci := 4) rfl rfl (q0 := 0) rfl hP hD hS hA hl.1 (Nat.le_of_ble_eq_true rfl) rfl dX4_readComparison_3 (fun H locs hP hD hS => ?_)
  have hP : va_P E.1 classes (WX4_readComparison E q0 q0_code q0_draft q0_stack q0_things q1 q1_signs i_length o1.2.1 o1.2.2.1 i_p1_length o1.2.2.2 i_p1_limit a_p1_signs) H := hP
  have hD : va_D A (WX4_readComparison E q0 q0_code q0_draft q0_stack q0_things q1 q1_signs i_length o1.2.1 o1.2.2.1 i_p1_length o1.2.2.2 i_p1_limit a_p1_signs) := hD
  refine lv_if_ne (tgt := 11) hx hb dX4_readComparison_6 (by decide) (fun c3 => ?_) (fun c3 => ?_)
  · rw [if_neg c3] at hf
    refine lv_aload_n hx hb dX4_readComparison_11 rfl (lv_at hl 1 rfl) ?_
    obtain ⟨o4, hg5, hf⟩ := bd_some hf
    refine k_VI (As := []) C K_RX4_58 (by omega) (Nat.le_of_ble_eq_true rfl) (kX6_peek l E q1 q1_signs i_p1_length o1.2.2.2 i_p1_limit a_p1_signs o4 hg5) [2, 3] rfl rfl rfl (ci := 6) rfl rfl (q0 := 0) rfl hP hD hS hA hl.1 (Nat.le_of_ble_eq_true rfl) rfl dX4_readComparison_12 (fun H locs hP hD hS => ?_)
    have hP : va_P E.1 classes (WX4_readComparison E q0 q0_code q0_draft q0_stack q0_things q1 q1_signs i_length o1.2.1 o1.2.2.1 i_p1_length o1.2.2.2 i_p1_limit a_p1_signs) H := hP
    have hD : va_D A (WX4_readComparison E q0 q0_code q0_draft q0_stack q0_things q1 q1_signs i_length o1.2.1 o1.2.2.1 i_p1_length o1.2.2.2 i_p1_limit a_p1_signs) := hD
    refine lv_istore_n (lv' := [(3, .int o4), (0, .ref q0), (1, .ref q1), (2, .int p2)]) hx hb dX4_readComparison_15 rfl hl (by decide) rfl (fun ls hl => ?_)
    refine lv_iload_n hx hb dX4_readComparison_16 rfl (lv_at hl 0 rfl) ?_
    refine lv_bipush (v := 60) hx hb dX4_readComparison_17 (by decide) ?_
    refine lv_icmp_eq (tgt := 36) hx hb dX4_readComparison_19 (by decide) (fun c6 => ?_) (fun c6 => ?_)
    · rw [if_pos c6] at hf
      exact J36 o4 o1.2.1 o1.2.2.1 o1.2.2.2 hf _ _ _ (lv_sub hl [1, 2, 3, 0] rfl) hP hD hS
    · rw [if_neg c6] at hf
      refine lv_iload_n hx hb dX4_readComparison_22 rfl (lv_at hl 0 rfl) ?_
      refine lv_bipush (v := 62) hx hb dX4_readComparison_23 (by decide) ?_
      refine lv_icmp_eq (tgt := 36) hx hb dX4_readComparison_25 (by decide) (fun c14 => ?_) (fun c14 => ?_)
      · rw [if_pos c14] at hf
        exact J36 o4 o1.2.1 o1.2.2.1 o1.2.2.2 hf _ _ _ (lv_sub hl [1, 2, 3, 0] rfl) hP hD hS
      · rw [if_neg c14] at hf
        refine lv_iload_n hx hb dX4_readComparison_28 rfl (lv_at hl 0 rfl) ?_
        refine lv_bipush (v := 61) hx hb dX4_readComparison_29 (by decide) ?_
        refine lv_icmp_eq (tgt := 36) hx hb dX4_readComparison_31 (by decide) (fun c15 => ?_) (fun c15 => ?_)
        · rw [if_pos c15] at hf
          exact J36 o4 o1.2.1 o1.2.2.1 o1.2.2.2 hf _ _ _ (lv_sub hl [1, 2, 3, 0] rfl) hP hD hS
        · rw [if_neg c15] at hf
          refine lv_iconst (v := 1) hx hb dX4_readComparison_34 (by decide) ?_
          have hj0 := Option.some.inj hf
          obtain ⟨ha0, hj1⟩ := Prod.mk.inj hj0
          obtain ⟨ha1, hj2⟩ := Prod.mk.inj hj1
          obtain ⟨ha2, hj3⟩ := Prod.mk.inj hj2
          subst ha0
          subst ha1
          subst ha2
          subst hj3
          exact hret _ _ _ _ dX4_readComparison_35 rfl hP hD hS
  · rw [if_pos c3] at hf
    refine lv_iconst (v := 0) hx hb dX4_readComparison_9 (by decide) ?_
    have hj0 := Option.some.inj hf
    obtain ⟨ha0, hj1⟩ := Prod.mk.inj hj0
    obtain ⟨ha1, hj2⟩ := Prod.mk.inj hj1
    obtain ⟨ha2, hj3⟩ := Prod.mk.inj hj2
    subst ha0
    subst ha1
    subst ha2
    subst hj3
    exact hret _ _ _ _ dX4_readComparison_10 rfl hP hD hS
theorem K_RX4_67 : KV RX4 67 yX4_readProduct cX4_readProduct 6 (some .boolean) 2 := ⟨Tg_mem 584 (by decide +kernel) (by decide +kernel), Tg_mem 94 (by decide +kernel) (by decide +kernel), Tg_mem 581 (by decide +kernel) (by decide +kernel), Tg_mem 583 (by decide +kernel) (by decide +kernel), Tg_mem 5 (by decide +kernel) (by decide +kernel), by decide +kernel⟩
theorem dX4_readSum_0 : decode cX4_readSum 0 = .ok (.aload_n 0, 1) := by decide +kernel
theorem dX4_readSum_1 : decode cX4_readSum 1 = .ok (.aload_n 1, 1) := by decide +kernel
theorem dX4_readSum_2 : decode cX4_readSum 2 = .ok (.iload_n 2, 1) := by decide +kernel
theorem dX4_readSum_3 : decode cX4_readSum 3 = .ok (.invokevirtual 67, 3) := by decide +kernel
theorem dX4_readSum_6 : decode cX4_readSum 6 = .ok (.istore_n 3, 1) := by decide +kernel
theorem dX4_readSum_7 : decode cX4_readSum 7 = .ok (.iconst 0, 1) := by decide +kernel
theorem dX4_readSum_8 : decode cX4_readSum 8 = .ok (.istore 4, 2) := by decide +kernel
theorem dX4_readSum_10 : decode cX4_readSum 10 = .ok (.iload 4, 2) := by decide +kernel
theorem dX4_readSum_12 : decode cX4_readSum 12 = .ok (.bipush 40, 2) := by decide +kernel
theorem dX4_readSum_14 : decode cX4_readSum 14 = .ok (.if_icmp .ge 56, 3) := by decide +kernel
theorem dX4_readSum_17 : decode cX4_readSum 17 = .ok (.iload_n 3, 1) := by decide +kernel
theorem dX4_readSum_18 : decode cX4_readSum 18 = .ok (.ifCond .eq 52, 3) := by decide +kernel
theorem dX4_readSum_21 : decode cX4_readSum 21 = .ok (.aload_n 1, 1) := by decide +kernel
theorem dX4_readSum_22 : decode cX4_readSum 22 = .ok (.invokevirtual 58, 3) := by decide +kernel
theorem dX4_readSum_25 : decode cX4_readSum 25 = .ok (.istore 5, 2) := by decide +kernel
theorem dX4_readSum_27 : decode cX4_readSum 27 = .ok (.iload 5, 2) := by decide +kernel
theorem dX4_readSum_29 : decode cX4_readSum 29 = .ok (.bipush 43, 2) := by decide +kernel
theorem dX4_readSum_31 : decode cX4_readSum 31 = .ok (.if_icmp .eq 12, 3) := by decide +kernel
theorem dX4_readSum_34 : decode cX4_readSum 34 = .ok (.iload 5, 2) := by decide +kernel
theorem dX4_readSum_36 : decode cX4_readSum 36 = .ok (.bipush 45, 2) := by decide +kernel
theorem dX4_readSum_38 : decode cX4_readSum 38 = .ok (.if_icmp .eq 5, 3) := by decide +kernel
theorem dX4_readSum_41 : decode cX4_readSum 41 = .ok (.iconst 1, 1) := by decide +kernel
theorem dX4_readSum_42 : decode cX4_readSum 42 = .ok (.ireturn, 1) := by decide +kernel
theorem dX4_readSum_43 : decode cX4_readSum 43 = .ok (.aload_n 1, 1) := by decide +kernel
theorem dX4_readSum_44 : decode cX4_readSum 44 = .ok (.invokevirtual 61, 3) := by decide +kernel
theorem dX4_readSum_47 : decode cX4_readSum 47 = .ok (.aload_n 0, 1) := by decide +kernel
theorem dX4_readSum_48 : decode cX4_readSum 48 = .ok (.aload_n 1, 1) := by decide +kernel
theorem dX4_readSum_49 : decode cX4_readSum 49 = .ok (.iload_n 2, 1) := by decide +kernel
theorem dX4_readSum_50 : decode cX4_readSum 50 = .ok (.invokevirtual 67, 3) := by decide +kernel
theorem dX4_readSum_53 : decode cX4_readSum 53 = .ok (.istore_n 3, 1) := by decide +kernel
theorem dX4_readSum_54 : decode cX4_readSum 54 = .ok (.aload_n 0, 1) := by decide +kernel
theorem dX4_readSum_55 : decode cX4_readSum 55 = .ok (.sipush 2000, 3) := by decide +kernel
theorem dX4_readSum_58 : decode cX4_readSum 58 = .ok (.iload 5, 2) := by decide +kernel
theorem dX4_readSum_60 : decode cX4_readSum 60 = .ok (.iadd, 1) := by decide +kernel
theorem dX4_readSum_61 : decode cX4_readSum 61 = .ok (.invokevirtual 64, 3) := by decide +kernel
theorem dX4_readSum_64 : decode cX4_readSum 64 = .ok (.iinc 4 1, 3) := by decide +kernel
theorem dX4_readSum_67 : decode cX4_readSum 67 = .ok (.goto (-57), 3) := by decide +kernel
theorem dX4_readSum_70 : decode cX4_readSum 70 = .ok (.iload_n 3, 1) := by decide +kernel
theorem dX4_readSum_71 : decode cX4_readSum 71 = .ok (.ireturn, 1) := by decide +kernel
set_option maxHeartbeats 4000000 in
set_option maxRecDepth 20000 in
theorem kX4_readSum_B (l : Launch) (E : ENV) (d : Nat) (hd9 : 4 ≤ d) (G : Nat → Int32 → (Nat → Int32) → Int32 → Int32 → (Nat → Int32) → Int32 → Option (Int32 × Int32 × (Nat → Int32) × Int32)) (hG2 : ∀ (q0 : Nat) (q0_code : Nat) (q0_draft : Nat) (q0_stack : Nat) (q0_things : Nat) (q1 : Nat) (q1_signs : Nat) (i_length : Int32) (i_drafted : Int32) (a_draft : Nat → Int32) (i_p1_length : Int32) (i_p1_place : Int32) (i_p1_limit : Int32) (a_p1_signs : Nat → Int32) (p2 : Int32) (r9 : Int32) (i_drafted9 : Int32) (a_draft9 : Nat → Int32) (i_p1_place9 : Int32), G 2 i_drafted a_draft i_p1_place i_p1_limit a_p1_signs p2 = some (r9, i_drafted9, a_draft9, i_p1_place9) → CI l E yX4_readProduct cX4_readProduct 6 (some .boolean) d [.ref q0, .ref q1, .int p2] (WX4_readComparison E q0 q0_code q0_draft q0_stack q0_things q1 q1_signs i_length i_drafted a_draft i_p1_length i_p1_place i_p1_limit a_p1_signs) (WX4_readComparison E q0 q0_code q0_draft q0_stack q0_things q1 q1_signs i_length i_drafted9 a_draft9 i_p1_length i_p1_place9 i_p1_limit a_p1_signs) r9) (q0 : Nat) (q0_code : Nat) (q0_draft : Nat) (q0_stack : Nat) (q0_things : Nat) (q1 : Nat) (q1_signs : Nat) (i_length : Int32) (i_drafted : Int32) (a_draft : Nat → Int32) (i_p1_length : Int32) (i_p1_place : Int32) (i_p1_limit : Int32) (a_p1_signs : Nat → Int32) (p2 : Int32) (r9 : Int32) (i_drafted9 : Int32) (a_draft9 : Nat → Int32) (i_p1_place9 : Int32) (hf : fX4_readSum_B G i_drafted a_draft i_p1_place i_p1_limit a_p1_signs p2 = some (r9, i_drafted9, a_draft9, i_p1_place9)) : CI l E yX4_readSum cX4_readSum 6 (some .boolean) (d + 1) [.ref q0, .ref q1, .int p2] (WX4_readComparison E q0 q0_code q0_draft q0_stack q0_things q1 q1_signs i_length i_drafted a_draft i_p1_length i_p1_place i_p1_limit a_p1_signs) (WX4_readComparison E q0 q0_code q0_draft q0_stack q0_things q1 q1_signs i_length i_drafted9 a_draft9 i_p1_length i_p1_place9 i_p1_limit a_p1_signs) r9 := by
  refine begI (by decide +kernel) (Nat.le_of_ble_eq_true rfl) ?_
  intro p e s m args below meth c A Q C hA hret
  have hx := C.1
  have hb := C.2.1
  have L10 : ∀ (n : Nat) (v3 : Int32) (v4 : Int32) (i_drafted : Int32) (a_draft : Nat → Int32) (i_p1_place : Int32) (o : (Int32 × Int32 × (Nat → Int32) × Int32) ⊕ (Int32 × Int32 × (Nat → Int32) × Int32)), fX4_readSum_L10 G i_p1_limit a_p1_signs p2 n v3 v4 i_drafted a_draft i_p1_place = some o → (∀ x, o = Sum.inl x → GO p l e (d + 1) s m args below meth c Q E A 6 70 [] [(3, .int x.1)] (WX4_readComparison E q0 q0_code q0_draft q0_stack q0_things q1 q1_signs i_length x.2.1 x.2.2.1 i_p1_length x.2.2.2 i_p1_limit a_p1_signs)) → (∀ x, o = Sum.inr x → x = (r9, i_drafted9, a_draft9, i_p1_place9)) → GO p l e (d + 1) s m args below meth c Q E A 6 10 [] [(0, .ref q0), (1, .ref q1), (2, .int p2), (3, .int v3), (4, .int v4)] (WX4_readComparison E q0 q0_code q0_draft q0_stack q0_things q1 q1_signs i_length i_drafted a_draft i_p1_length i_p1_place i_p1_limit a_p1_signs) := by
    intro n
    induction n with
    | zero =>
      intro v3 v4 i_drafted a_draft i_p1_place o hf
      have hf : none = some o := hf
      cases hf
    | succ n ih =>
      intro v3 v4 i_drafted a_draft i_p1_place o hf hE hR
      have J43 : ∀ (v4 : Int32) (v5 : Int32) (i_drafted : Int32) (a_draft : Nat → Int32) (i_p1_place : Int32), fX4_readSum_J43 (fX4_readSum_L10 G i_p1_limit a_p1_signs p2 n) G i_p1_limit a_p1_signs p2 v4 v5 i_drafted a_draft i_p1_place = some o → GO p l e (d + 1) s m args below meth c Q E A 6 43 [] [(0, .ref q0), (1, .ref q1), (2, .int p2), (4, .int v4), (5, .int v5)] (WX4_readComparison E q0 q0_code q0_draft q0_stack q0_things q1 q1_signs i_length i_drafted a_draft i_p1_length i_p1_place i_p1_limit a_p1_signs) := by
        intro v4 v5 i_drafted a_draft i_p1_place hf H locs ls hl hP hD hS
        unfold fX4_readSum_J43 at hf
        refine lv_aload_n hx hb dX4_readSum_43 rfl (lv_at hl 1 rfl) ?_
        obtain ⟨o8, hg9, hf⟩ := bd_some hf
        refine k_VV (As := []) C K_RX4_61 (by omega) (Nat.le_of_ble_eq_true rfl) (kX6_skip l E q1 q1_signs i_p1_length i_p1_place i_p1_limit o8 hg9) [2] rfl rfl rfl (ci := 6) rfl rfl (q0 := 0) rfl hP hD hS hA hl.1 (Nat.le_of_ble_eq_true rfl) rfl dX4_readSum_44 (fun H locs hP hD hS => ?_)
        have hP : va_P E.1 classes (WX4_readComparison E q0 q0_code q0_draft q0_stack q0_things q1 q1_signs i_length i_drafted a_draft i_p1_length o8 i_p1_limit a_p1_signs) H := hP
        have hD : va_D A (WX4_readComparison E q0 q0_code q0_draft q0_stack q0_things q1 q1_signs i_length i_drafted a_draft i_p1_length o8 i_p1_limit a_p1_signs) := hD
        refine lv_aload_n hx hb dX4_readSum_47 rfl (lv_at hl 0 rfl) ?_
        refine lv_aload_n hx hb dX4_readSum_48 rfl (lv_at hl 1 rfl) ?_
        refine lv_iload_n hx hb dX4_readSum_49 rfl (lv_at hl 2 rfl) ?_
        obtain ⟨o10, hg11, hf⟩ := bd_some hf
        refine k_VI (As := [.ref q1, .int p2]) C K_RX4_67 (Nat.lt_succ_self d) (Nat.le_of_ble_eq_true rfl) (hG2 q0 q0_code q0_draft q0_stack q0_things q1 q1_signs i_length i_drafted a_draft i_p1_length o8 i_p1_limit a_p1_signs p2 o10.1 o10.2.1 o10.2.2.1 o10.2.2.2 hg11) [0, 1, 2, 3] rfl rfl rfl (ci := 4) rfl rfl (q0 := 0) rfl hP hD hS hA hl.1 (Nat.le_of_ble_eq_true rfl) rfl dX4_readSum_50 (fun H locs hP hD hS => ?_)
        have hP : va_P E.1 classes (WX4_readComparison E q0 q0_code q0_draft q0_stack q0_things q1 q1_signs i_length o10.2.1 o10.2.2.1 i_p1_length o10.2.2.2 i_p1_limit a_p1_signs) H := hP
        have hD : va_D A (WX4_readComparison E q0 q0_code q0_draft q0_stack q0_things q1 q1_signs i_length o10.2.1 o10.2.2.1 i_p1_length o10.2.2.2 i_p1_limit a_p1_signs) := hD
        refine lv_istore_n (lv' := [(3, .int o10.1), (0, .ref q0), (1, .ref q1), (2, .int p2), (4, .int v4), (5, .int v5)]) hx hb dX4_readSum_53 rfl hl (by decide) rfl (fun ls hl => ?_)
        refine lv_aload_n hx hb dX4_readSum_54 rfl (lv_at hl 1 rfl) ?_
        refine lv_sipush (v := 2000) hx hb dX4_readSum_55 (by decide) ?_
        refine lv_iload hx hb dX4_readSum_58 (lv_at hl 5 rfl) ?_
        refine lv_iadd hx hb dX4_readSum_60 ?_
        obtain ⟨o12, hg13, hf⟩ := bd_some hf
        refine k_VV (As := [.int ((2000 + v5))]) C K_RX4_64 (by omega) (Nat.le_of_ble_eq_true rfl) (kX4_put l E q0 q0_code q0_draft q0_stack q0_things i_length o10.2.1 o10.2.2.1 ((2000 + v5)) o12.1 o12.2 hg13) [0, 1] rfl rfl rfl (ci := 4) rfl rfl (q0 := 0) rfl hP hD hS hA hl.1 (Nat.le_of_ble_eq_true rfl) rfl dX4_readSum_61 (fun H locs hP hD hS => ?_)
        have hP : va_P E.1 classes (WX4_readComparison E q0 q0_code q0_draft q0_stack q0_things q1 q1_signs i_length o12.1 o12.2 i_p1_length o10.2.2.2 i_p1_limit a_p1_signs) H := hP
        have hD : va_D A (WX4_readComparison E q0 q0_code q0_draft q0_stack q0_things q1 q1_signs i_length o12.1 o12.2 i_p1_length o10.2.2.2 i_p1_limit a_p1_signs) := hD
        refine lv_iinc (v := (v4 + 1)) (lv' := [(4, .int ((v4 + 1))), (3, .int o10.1), (0, .ref q0), (1, .ref q1), (2, .int p2), (5, .int v5)]) hx hb dX4_readSum_64 hl (k := 4) rfl rfl (by decide) rfl (fun ls hl => ?_)
        refine lv_goto (tgt := 10) hx hb dX4_readSum_67 (by decide) ?_
        exact ih o10.1 ((v4 + 1)) o12.1 o12.2 o10.2.2.2 _ hf hE hR _ _ _ (lv_sub hl [2, 3, 4, 1, 0] rfl) hP hD hS
      intro H locs ls hl hP hD hS
      rw [fX4_readSum_L10] at hf
      refine lv_iload hx hb dX4_readSum_10 (lv_at hl 4 rfl) ?_
      refine lv_bipush (v := 40) hx hb dX4_readSum_12 (by decide) ?_
      refine lv_icmp_ge (tgt := 70) hx hb dX4_readSum_14 (by decide) (fun c3 => ?_) (fun c3 => ?_)
      · rw [if_pos c3] at hf
        have hf := Option.some.inj hf
        subst hf
        exact (hE _ rfl) _ _ _ (lv_sub hl [3] rfl) hP hD hS
      · rw [if_neg c3] at hf
        refine lv_iload_n hx hb dX4_readSum_17 rfl (lv_at hl 3 rfl) ?_
        refine lv_if_eq (tgt := 70) hx hb dX4_readSum_18 (by decide) (fun c4 => ?_) (fun c4 => ?_)
        · rw [if_pos c4] at hf
          have hf := Option.some.inj hf
          subst hf
          exact (hE _ rfl) _ _ _ (lv_sub hl [3] rfl) hP hD hS
        · rw [if_neg c4] at hf
          refine lv_aload_n hx hb dX4_readSum_21 rfl (lv_at hl 1 rfl) ?_
          obtain ⟨o5, hg6, hf⟩ := bd_some hf
          refine k_VI (As := []) C K_RX4_58 (by omega) (Nat.le_of_ble_eq_true rfl) (kX6_peek l E q1 q1_signs i_p1_length i_p1_place i_p1_limit a_p1_signs o5 hg6) [2, 3] rfl rfl rfl (ci := 6) rfl rfl (q0 := 0) rfl hP hD hS hA hl.1 (Nat.le_of_ble_eq_true rfl) rfl dX4_readSum_22 (fun H locs hP hD hS => ?_)
          have hP : va_P E.1 classes (WX4_readComparison E q0 q0_code q0_draft q0_stack q0_things q1 q1_signs i_length i_drafted a_draft i_p1_length i_p1_place i_p1_limit a_p1_signs) H := hP
          have hD : va_D A (WX4_readComparison E q0 q0_code q0_draft q0_stack q0_things q1 q1_signs i_length i_drafted a_draft i_p1_length i_p1_place i_p1_limit a_p1_signs) := hD
          refine lv_istore (lv' := [(5, .int o5), (0, .ref q0), (1, .ref q1), (2, .int p2), (3, .int v3), (4, .int v4)]) hx hb dX4_readSum_25 hl (by decide) rfl (fun ls hl => ?_)
          refine lv_iload hx hb dX4_readSum_27 (lv_at hl 0 rfl) ?_
          refine lv_bipush (v := 43) hx hb dX4_readSum_29 (by decide) ?_
          refine lv_icmp_eq (tgt := 43) hx hb dX4_readSum_31 (by decide) (fun c7 => ?_) (fun c7 => ?_)
          · rw [if_pos c7] at hf
            exact J43 v4 o5 i_drafted a_draft i_p1_place hf _ _ _ (lv_sub hl [1, 2, 3, 5, 0] rfl) hP hD hS
          · rw [if_neg c7] at hf
            refine lv_iload hx hb dX4_readSum_34 (lv_at hl 0 rfl) ?_
            refine lv_bipush (v := 45) hx hb dX4_readSum_36 (by decide) ?_
            refine lv_icmp_eq (tgt := 43) hx hb dX4_readSum_38 (by decide) (fun c14 => ?_) (fun c14 => ?_)
            · rw [if_pos c14] at hf
              exact J43 v4 o5 i_drafted a_draft i_p1_place hf _ _ _ (lv_sub hl [1, 2, 3, 5, 0] rfl) hP hD hS
            · rw [if_neg c14] at hf
              refine lv_iconst (v := 1) hx hb dX4_readSum_41 (by decide) ?_
              have hf := Option.some.inj hf
              subst hf
              have hj0 := hR _ rfl
              obtain ⟨ha0, hj1⟩ := Prod.mk.inj hj0
              obtain ⟨ha1, hj2⟩ := Prod.mk.inj hj1
              obtain ⟨ha2, hj3⟩ := Prod.mk.inj hj2
              subst ha0
              subst ha1
              subst ha2
              subst hj3
              exact hret _ _ _ _ dX4_readSum_42 rfl hP hD hS
  intro H locs ls hl hP hD hS
  have hl : lv_has ls 6 [(0, .ref q0), (1, .ref q1), (2, .int p2)] := hl
  unfold fX4_readSum_B at hf
  refine lv_aload_n hx hb dX4_readSum_0 rfl (lv_at hl 0 rfl) ?_
  refine lv_aload_n hx hb dX4_readSum_1 rfl (lv_at hl 1 rfl) ?_
  refine lv_iload_n hx hb dX4_readSum_2 rfl (lv_at hl 2 rfl) ?_
  obtain ⟨o1, hg2, hf⟩ := bd_some hf
  refine k_VI (As := [.ref q1, .int p2]) C K_RX4_67 (Nat.lt_succ_self d) (Nat.le_of_ble_eq_true rfl) (hG2 q0 q0_code q0_draft q0_stack q0_things q1 q1_signs i_length i_drafted a_draft i_p1_length i_p1_place i_p1_limit a_p1_signs p2 o1.1 o1.2.1 o1.2.2.1 o1.2.2.2 hg2) [0, 1, 2, 3] rfl rfl rfl (ci := 4) rfl rfl (q0 := 0) rfl hP hD hS hA hl.1 (Nat.le_of_ble_eq_true rfl) rfl dX4_readSum_3 (fun H locs hP hD hS => ?_)
  have hP : va_P E.1 classes (WX4_readComparison E q0 q0_code q0_draft q0_stack q0_things q1 q1_signs i_length o1.2.1 o1.2.2.1 i_p1_length o1.2.2.2 i_p1_limit a_p1_signs) H := hP
  have hD : va_D A (WX4_readComparison E q0 q0_code q0_draft q0_stack q0_things q1 q1_signs i_length o1.2.1 o1.2.2.1 i_p1_length o1.2.2.2 i_p1_limit a_p1_signs) := hD
  refine lv_istore_n (lv' := [(3, .int o1.1), (0, .ref q0), (1, .ref q1), (2, .int p2)]) hx hb dX4_readSum_6 rfl hl (by decide) rfl (fun ls hl => ?_)
  refine lv_iconst (v := 0) hx hb dX4_readSum_7 (by decide) ?_
  refine lv_istore (lv' := [(4, .int 0), (3, .int o1.1), (0, .ref q0), (1, .ref q1), (2, .int p2)]) hx hb dX4_readSum_8 hl (by decide) rfl (fun ls hl => ?_)
  obtain ⟨o15, hg16, hf⟩ := bd_some hf
  refine L10 FU o1.1 0 o1.2.1 o1.2.2.1 o1.2.2.2 o15 hg16 ?_ ?_ _ _ _ (lv_sub hl [2, 3, 4, 1, 0] rfl) hP hD hS
  · intro x17 hxx
    rw [hxx, Sum.elim_inl] at hf
    intro H locs ls hl hP hD hS
    refine lv_iload_n hx hb dX4_readSum_70 rfl (lv_at hl 0 rfl) ?_
    obtain ⟨g18, hf⟩ := gd_some hf
    have hj0 := Option.some.inj hf
    obtain ⟨ha0, hj1⟩ := Prod.mk.inj hj0
    obtain ⟨ha1, hj2⟩ := Prod.mk.inj hj1
    obtain ⟨ha2, hj3⟩ := Prod.mk.inj hj2
    subst ha0
    subst ha1
    subst ha2
    subst hj3
    exact hret _ _ _ _ dX4_readSum_71 (isb_n g18) hP hD hS
  · intro x hxx
    rw [hxx, Sum.elim_inr] at hf
    exact Option.some.inj hf
theorem K_RX4_70 : KV RX4 70 yX4_readFactor cX4_readFactor 4 (some .boolean) 2 := ⟨Tg_mem 588 (by decide +kernel) (by decide +kernel), Tg_mem 94 (by decide +kernel) (by decide +kernel), Tg_mem 585 (by decide +kernel) (by decide +kernel), Tg_mem 587 (by decide +kernel) (by decide +kernel), Tg_mem 6 (by decide +kernel) (by decide +kernel), by decide +kernel⟩
theorem dX4_readProduct_0 : decode cX4_readProduct 0 = .ok (.aload_n 0, 1) := by decide +kernel
theorem dX4_readProduct_1 : decode cX4_readProduct 1 = .ok (.aload_n 1, 1) := by decide +kernel
theorem dX4_readProduct_2 : decode cX4_readProduct 2 = .ok (.iload_n 2, 1) := by decide +kernel
theorem dX4_readProduct_3 : decode cX4_readProduct 3 = .ok (.invokevirtual 70, 3) := by decide +kernel
theorem dX4_readProduct_6 : decode cX4_readProduct 6 = .ok (.istore_n 3, 1) := by decide +kernel
theorem dX4_readProduct_7 : decode cX4_readProduct 7 = .ok (.iconst 0, 1) := by decide +kernel
theorem dX4_readProduct_8 : decode cX4_readProduct 8 = .ok (.istore 4, 2) := by decide +kernel
theorem dX4_readProduct_10 : decode cX4_readProduct 10 = .ok (.iload 4, 2) := by decide +kernel
theorem dX4_readProduct_12 : decode cX4_readProduct 12 = .ok (.bipush 40, 2) := by decide +kernel
theorem dX4_readProduct_14 : decode cX4_readProduct 14 = .ok (.if_icmp .ge 56, 3) := by decide +kernel
theorem dX4_readProduct_17 : decode cX4_readProduct 17 = .ok (.iload_n 3, 1) := by decide +kernel
theorem dX4_readProduct_18 : decode cX4_readProduct 18 = .ok (.ifCond .eq 52, 3) := by decide +kernel
theorem dX4_readProduct_21 : decode cX4_readProduct 21 = .ok (.aload_n 1, 1) := by decide +kernel
theorem dX4_readProduct_22 : decode cX4_readProduct 22 = .ok (.invokevirtual 58, 3) := by decide +kernel
theorem dX4_readProduct_25 : decode cX4_readProduct 25 = .ok (.istore 5, 2) := by decide +kernel
theorem dX4_readProduct_27 : decode cX4_readProduct 27 = .ok (.iload 5, 2) := by decide +kernel
theorem dX4_readProduct_29 : decode cX4_readProduct 29 = .ok (.bipush 42, 2) := by decide +kernel
theorem dX4_readProduct_31 : decode cX4_readProduct 31 = .ok (.if_icmp .eq 12, 3) := by decide +kernel
theorem dX4_readProduct_34 : decode cX4_readProduct 34 = .ok (.iload 5, 2) := by decide +kernel
theorem dX4_readProduct_36 : decode cX4_readProduct 36 = .ok (.bipush 47, 2) := by decide +kernel
theorem dX4_readProduct_38 : decode cX4_readProduct 38 = .ok (.if_icmp .eq 5, 3) := by decide +kernel
theorem dX4_readProduct_41 : decode cX4_readProduct 41 = .ok (.iconst 1, 1) := by decide +kernel
theorem dX4_readProduct_42 : decode cX4_readProduct 42 = .ok (.ireturn, 1) := by decide +kernel
theorem dX4_readProduct_43 : decode cX4_readProduct 43 = .ok (.aload_n 1, 1) := by decide +kernel
theorem dX4_readProduct_44 : decode cX4_readProduct 44 = .ok (.invokevirtual 61, 3) := by decide +kernel
theorem dX4_readProduct_47 : decode cX4_readProduct 47 = .ok (.aload_n 0, 1) := by decide +kernel
theorem dX4_readProduct_48 : decode cX4_readProduct 48 = .ok (.aload_n 1, 1) := by decide +kernel
theorem dX4_readProduct_49 : decode cX4_readProduct 49 = .ok (.iload_n 2, 1) := by decide +kernel
theorem dX4_readProduct_50 : decode cX4_readProduct 50 = .ok (.invokevirtual 70, 3) := by decide +kernel
theorem dX4_readProduct_53 : decode cX4_readProduct 53 = .ok (.istore_n 3, 1) := by decide +kernel
theorem dX4_readProduct_54 : decode cX4_readProduct 54 = .ok (.aload_n 0, 1) := by decide +kernel
theorem dX4_readProduct_55 : decode cX4_readProduct 55 = .ok (.sipush 2000, 3) := by decide +kernel
theorem dX4_readProduct_58 : decode cX4_readProduct 58 = .ok (.iload 5, 2) := by decide +kernel
theorem dX4_readProduct_60 : decode cX4_readProduct 60 = .ok (.iadd, 1) := by decide +kernel
theorem dX4_readProduct_61 : decode cX4_readProduct 61 = .ok (.invokevirtual 64, 3) := by decide +kernel
theorem dX4_readProduct_64 : decode cX4_readProduct 64 = .ok (.iinc 4 1, 3) := by decide +kernel
theorem dX4_readProduct_67 : decode cX4_readProduct 67 = .ok (.goto (-57), 3) := by decide +kernel
theorem dX4_readProduct_70 : decode cX4_readProduct 70 = .ok (.iload_n 3, 1) := by decide +kernel
theorem dX4_readProduct_71 : decode cX4_readProduct 71 = .ok (.ireturn, 1) := by decide +kernel
set_option maxHeartbeats 4000000 in
set_option maxRecDepth 20000 in
theorem kX4_readProduct_B (l : Launch) (E : ENV) (d : Nat) (hd9 : 4 ≤ d) (G : Nat → Int32 → (Nat → Int32) → Int32 → Int32 → (Nat → Int32) → Int32 → Option (Int32 × Int32 × (Nat → Int32) × Int32)) (hG3 : ∀ (q0 : Nat) (q0_code : Nat) (q0_draft : Nat) (q0_stack : Nat) (q0_things : Nat) (q1 : Nat) (q1_signs : Nat) (i_length : Int32) (i_drafted : Int32) (a_draft : Nat → Int32) (i_p1_length : Int32) (i_p1_place : Int32) (i_p1_limit : Int32) (a_p1_signs : Nat → Int32) (p2 : Int32) (r9 : Int32) (i_drafted9 : Int32) (a_draft9 : Nat → Int32) (i_p1_place9 : Int32), G 3 i_drafted a_draft i_p1_place i_p1_limit a_p1_signs p2 = some (r9, i_drafted9, a_draft9, i_p1_place9) → CI l E yX4_readFactor cX4_readFactor 4 (some .boolean) d [.ref q0, .ref q1, .int p2] (WX4_readComparison E q0 q0_code q0_draft q0_stack q0_things q1 q1_signs i_length i_drafted a_draft i_p1_length i_p1_place i_p1_limit a_p1_signs) (WX4_readComparison E q0 q0_code q0_draft q0_stack q0_things q1 q1_signs i_length i_drafted9 a_draft9 i_p1_length i_p1_place9 i_p1_limit a_p1_signs) r9) (q0 : Nat) (q0_code : Nat) (q0_draft : Nat) (q0_stack : Nat) (q0_things : Nat) (q1 : Nat) (q1_signs : Nat) (i_length : Int32) (i_drafted : Int32) (a_draft : Nat → Int32) (i_p1_length : Int32) (i_p1_place : Int32) (i_p1_limit : Int32) (a_p1_signs : Nat → Int32) (p2 : Int32) (r9 : Int32) (i_drafted9 : Int32) (a_draft9 : Nat → Int32) (i_p1_place9 : Int32) (hf : fX4_readProduct_B G i_drafted a_draft i_p1_place i_p1_limit a_p1_signs p2 = some (r9, i_drafted9, a_draft9, i_p1_place9)) : CI l E yX4_readProduct cX4_readProduct 6 (some .boolean) (d + 1) [.ref q0, .ref q1, .int p2] (WX4_readComparison E q0 q0_code q0_draft q0_stack q0_things q1 q1_signs i_length i_drafted a_draft i_p1_length i_p1_place i_p1_limit a_p1_signs) (WX4_readComparison E q0 q0_code q0_draft q0_stack q0_things q1 q1_signs i_length i_drafted9 a_draft9 i_p1_length i_p1_place9 i_p1_limit a_p1_signs) r9 := by
  refine begI (by decide +kernel) (Nat.le_of_ble_eq_true rfl) ?_
  intro p e s m args below meth c A Q C hA hret
  have hx := C.1
  have hb := C.2.1
  have L10 : ∀ (n : Nat) (v3 : Int32) (v4 : Int32) (i_drafted : Int32) (a_draft : Nat → Int32) (i_p1_place : Int32) (o : (Int32 × Int32 × (Nat → Int32) × Int32) ⊕ (Int32 × Int32 × (Nat → Int32) × Int32)), fX4_readProduct_L10 G i_p1_limit a_p1_signs p2 n v3 v4 i_drafted a_draft i_p1_place = some o → (∀ x, o = Sum.inl x → GO p l e (d + 1) s m args below meth c Q E A 6 70 [] [(3, .int x.1)] (WX4_readComparison E q0 q0_code q0_draft q0_stack q0_things q1 q1_signs i_length x.2.1 x.2.2.1 i_p1_length x.2.2.2 i_p1_limit a_p1_signs)) → (∀ x, o = Sum.inr x → x = (r9, i_drafted9, a_draft9, i_p1_place9)) → GO p l e (d + 1) s m args below meth c Q E A 6 10 [] [(0, .ref q0), (1, .ref q1), (2, .int p2), (3, .int v3), (4, .int v4)] (WX4_readComparison E q0 q0_code q0_draft q0_stack q0_things q1 q1_signs i_length i_drafted a_draft i_p1_length i_p1_place i_p1_limit a_p1_signs) := by
    intro n
    induction n with
    | zero =>
      intro v3 v4 i_drafted a_draft i_p1_place o hf
      have hf : none = some o := hf
      cases hf
    | succ n ih =>
      intro v3 v4 i_drafted a_draft i_p1_place o hf hE hR
      have J43 : ∀ (v4 : Int32) (v5 : Int32) (i_drafted : Int32) (a_draft : Nat → Int32) (i_p1_place : Int32), fX4_readProduct_J43 (fX4_readProduct_L10 G i_p1_limit a_p1_signs p2 n) G i_p1_limit a_p1_signs p2 v4 v5 i_drafted a_draft i_p1_place = some o → GO p l e (d + 1) s m args below meth c Q E A 6 43 [] [(0, .ref q0), (1, .ref q1), (2, .int p2), (4, .int v4), (5, .int v5)] (WX4_readComparison E q0 q0_code q0_draft q0_stack q0_things q1 q1_signs i_length i_drafted a_draft i_p1_length i_p1_place i_p1_limit a_p1_signs) := by
        intro v4 v5 i_drafted a_draft i_p1_place hf H locs ls hl hP hD hS
        unfold fX4_readProduct_J43 at hf
        refine lv_aload_n hx hb dX4_readProduct_43 rfl (lv_at hl 1 rfl) ?_
        obtain ⟨o8, hg9, hf⟩ := bd_some hf
        refine k_VV (As := []) C K_RX4_61 (by omega) (Nat.le_of_ble_eq_true rfl) (kX6_skip l E q1 q1_signs i_p1_length i_p1_place i_p1_limit o8 hg9) [2] rfl rfl rfl (ci := 6) rfl rfl (q0 := 0) rfl hP hD hS hA hl.1 (Nat.le_of_ble_eq_true rfl) rfl dX4_readProduct_44 (fun H locs hP hD hS => ?_)
        have hP : va_P E.1 classes (WX4_readComparison E q0 q0_code q0_draft q0_stack q0_things q1 q1_signs i_length i_drafted a_draft i_p1_length o8 i_p1_limit a_p1_signs) H := hP
        have hD : va_D A (WX4_readComparison E q0 q0_code q0_draft q0_stack q0_things q1 q1_signs i_length i_drafted a_draft i_p1_length o8 i_p1_limit a_p1_signs) := hD
        refine lv_aload_n hx hb dX4_readProduct_47 rfl (lv_at hl 0 rfl) ?_
        refine lv_aload_n hx hb dX4_readProduct_48 rfl (lv_at hl 1 rfl) ?_
        refine lv_iload_n hx hb dX4_readProduct_49 rfl (lv_at hl 2 rfl) ?_
        obtain ⟨o10, hg11, hf⟩ := bd_some hf
        refine k_VI (As := [.ref q1, .int p2]) C K_RX4_70 (Nat.lt_succ_self d) (Nat.le_of_ble_eq_true rfl) (hG3 q0 q0_code q0_draft q0_stack q0_things q1 q1_signs i_length i_drafted a_draft i_p1_length o8 i_p1_limit a_p1_signs p2 o10.1 o10.2.1 o10.2.2.1 o10.2.2.2 hg11) [0, 1, 2, 3] rfl rfl rfl (ci := 4) rfl rfl (q0 := 0) rfl hP hD hS hA hl.1 (Nat.le_of_ble_eq_true rfl) rfl dX4_readProduct_50 (fun H locs hP hD hS => ?_)
        have hP : va_P E.1 classes (WX4_readComparison E q0 q0_code q0_draft q0_stack q0_things q1 q1_signs i_length o10.2.1 o10.2.2.1 i_p1_length o10.2.2.2 i_p1_limit a_p1_signs) H := hP
        have hD : va_D A (WX4_readComparison E q0 q0_code q0_draft q0_stack q0_things q1 q1_signs i_length o10.2.1 o10.2.2.1 i_p1_length o10.2.2.2 i_p1_limit a_p1_signs) := hD
        refine lv_istore_n (lv' := [(3, .int o10.1), (0, .ref q0), (1, .ref q1), (2, .int p2), (4, .int v4), (5, .int v5)]) hx hb dX4_readProduct_53 rfl hl (by decide) rfl (fun ls hl => ?_)
        refine lv_aload_n hx hb dX4_readProduct_54 rfl (lv_at hl 1 rfl) ?_
        refine lv_sipush (v := 2000) hx hb dX4_readProduct_55 (by decide) ?_
        refine lv_iload hx hb dX4_readProduct_58 (lv_at hl 5 rfl) ?_
        refine lv_iadd hx hb dX4_readProduct_60 ?_
        obtain ⟨o12, hg13, hf⟩ := bd_some hf
        refine k_VV (As := [.int ((2000 + v5))]) C K_RX4_64 (by omega) (Nat.le_of_ble_eq_true rfl) (kX4_put l E q0 q0_code q0_draft q0_stack q0_things i_length o10.2.1 o10.2.2.1 ((2000 + v5)) o12.1 o12.2 hg13) [0, 1] rfl rfl rfl (ci := 4) rfl rfl (q0 := 0) rfl hP hD hS hA hl.1 (Nat.le_of_ble_eq_true rfl) rfl dX4_readProduct_61 (fun H locs hP hD hS => ?_)
        have hP : va_P E.1 classes (WX4_readComparison E q0 q0_code q0_draft q0_stack q0_things q1 q1_signs i_length o12.1 o12.2 i_p1_length o10.2.2.2 i_p1_limit a_p1_signs) H := hP
        have hD : va_D A (WX4_readComparison E q0 q0_code q0_draft q0_stack q0_things q1 q1_signs i_length o12.1 o12.2 i_p1_length o10.2.2.2 i_p1_limit a_p1_signs) := hD
        refine lv_iinc (v := (v4 + 1)) (lv' := [(4, .int ((v4 + 1))), (3, .int o10.1), (0, .ref q0), (1, .ref q1), (2, .int p2), (5, .int v5)]) hx hb dX4_readProduct_64 hl (k := 4) rfl rfl (by decide) rfl (fun ls hl => ?_)
        refine lv_goto (tgt := 10) hx hb dX4_readProduct_67 (by decide) ?_
        exact ih o10.1 ((v4 + 1)) o12.1 o12.2 o10.2.2.2 _ hf hE hR _ _ _ (lv_sub hl [2, 3, 4, 1, 0] rfl) hP hD hS
      intro H locs ls hl hP hD hS
      rw [fX4_readProduct_L10] at hf
      refine lv_iload hx hb dX4_readProduct_10 (lv_at hl 4 rfl) ?_
      refine lv_bipush (v := 40) hx hb dX4_readProduct_12 (by decide) ?_
      refine lv_icmp_ge (tgt := 70) hx hb dX4_readProduct_14 (by decide) (fun c3 => ?_) (fun c3 => ?_)
      · rw [if_pos c3] at hf
        have hf := Option.some.inj hf
        subst hf
        exact (hE _ rfl) _ _ _ (lv_sub hl [3] rfl) hP hD hS
      · rw [if_neg c3] at hf
        refine lv_iload_n hx hb dX4_readProduct_17 rfl (lv_at hl 3 rfl) ?_
        refine lv_if_eq (tgt := 70) hx hb dX4_readProduct_18 (by decide) (fun c4 => ?_) (fun c4 => ?_)
        · rw [if_pos c4] at hf
          have hf := Option.some.inj hf
          subst hf
          exact (hE _ rfl) _ _ _ (lv_sub hl [3] rfl) hP hD hS
        · rw [if_neg c4] at hf
          refine lv_aload_n hx hb dX4_readProduct_21 rfl (lv_at hl 1 rfl) ?_
          obtain ⟨o5, hg6, hf⟩ := bd_some hf
          refine k_VI (As := []) C K_RX4_58 (by omega) (Nat.le_of_ble_eq_true rfl) (kX6_peek l E q1 q1_signs i_p1_length i_p1_place i_p1_limit a_p1_signs o5 hg6) [2, 3] rfl rfl rfl (ci := 6) rfl rfl (q0 := 0) rfl hP hD hS hA hl.1 (Nat.le_of_ble_eq_true rfl) rfl dX4_readProduct_22 (fun H locs hP hD hS => ?_)
          have hP : va_P E.1 classes (WX4_readComparison E q0 q0_code q0_draft q0_stack q0_things q1 q1_signs i_length i_drafted a_draft i_p1_length i_p1_place i_p1_limit a_p1_signs) H := hP
          have hD : va_D A (WX4_readComparison E q0 q0_code q0_draft q0_stack q0_things q1 q1_signs i_length i_drafted a_draft i_p1_length i_p1_place i_p1_limit a_p1_signs) := hD
          refine lv_istore (lv' := [(5, .int o5), (0, .ref q0), (1, .ref q1), (2, .int p2), (3, .int v3), (4, .int v4)]) hx hb dX4_readProduct_25 hl (by decide) rfl (fun ls hl => ?_)
          refine lv_iload hx hb dX4_readProduct_27 (lv_at hl 0 rfl) ?_
          refine lv_bipush (v := 42) hx hb dX4_readProduct_29 (by decide) ?_
          refine lv_icmp_eq (tgt := 43) hx hb dX4_readProduct_31 (by decide) (fun c7 => ?_) (fun c7 => ?_)
          · rw [if_pos c7] at hf
            exact J43 v4 o5 i_drafted a_draft i_p1_place hf _ _ _ (lv_sub hl [1, 2, 3, 5, 0] rfl) hP hD hS
          · rw [if_neg c7] at hf
            refine lv_iload hx hb dX4_readProduct_34 (lv_at hl 0 rfl) ?_
            refine lv_bipush (v := 47) hx hb dX4_readProduct_36 (by decide) ?_
            refine lv_icmp_eq (tgt := 43) hx hb dX4_readProduct_38 (by decide) (fun c14 => ?_) (fun c14 => ?_)
            · rw [if_pos c14] at hf
              exact J43 v4 o5 i_drafted a_draft i_p1_place hf _ _ _ (lv_sub hl [1, 2, 3, 5, 0] rfl) hP hD hS
            · rw [if_neg c14] at hf
              refine lv_iconst (v := 1) hx hb dX4_readProduct_41 (by decide) ?_
              have hf := Option.some.inj hf
              subst hf
              have hj0 := hR _ rfl
              obtain ⟨ha0, hj1⟩ := Prod.mk.inj hj0
              obtain ⟨ha1, hj2⟩ := Prod.mk.inj hj1
              obtain ⟨ha2, hj3⟩ := Prod.mk.inj hj2
              subst ha0
              subst ha1
              subst ha2
              subst hj3
              exact hret _ _ _ _ dX4_readProduct_42 rfl hP hD hS
  intro H locs ls hl hP hD hS
  have hl : lv_has ls 6 [(0, .ref q0), (1, .ref q1), (2, .int p2)] := hl
  unfold fX4_readProduct_B at hf
  refine lv_aload_n hx hb dX4_readProduct_0 rfl (lv_at hl 0 rfl) ?_
  refine lv_aload_n hx hb dX4_readProduct_1 rfl (lv_at hl 1 rfl) ?_
  refine lv_iload_n hx hb dX4_readProduct_2 rfl (lv_at hl 2 rfl) ?_
  obtain ⟨o1, hg2, hf⟩ := bd_some hf
  refine k_VI (As := [.ref q1, .int p2]) C K_RX4_70 (Nat.lt_succ_self d) (Nat.le_of_ble_eq_true rfl) (hG3 q0 q0_code q0_draft q0_stack q0_things q1 q1_signs i_length i_drafted a_draft i_p1_length i_p1_place i_p1_limit a_p1_signs p2 o1.1 o1.2.1 o1.2.2.1 o1.2.2.2 hg2) [0, 1, 2, 3] rfl rfl rfl (ci := 4) rfl rfl (q0 := 0) rfl hP hD hS hA hl.1 (Nat.le_of_ble_eq_true rfl) rfl dX4_readProduct_3 (fun H locs hP hD hS => ?_)
  have hP : va_P E.1 classes (WX4_readComparison E q0 q0_code q0_draft q0_stack q0_things q1 q1_signs i_length o1.2.1 o1.2.2.1 i_p1_length o1.2.2.2 i_p1_limit a_p1_signs) H := hP
  have hD : va_D A (WX4_readComparison E q0 q0_code q0_draft q0_stack q0_things q1 q1_signs i_length o1.2.1 o1.2.2.1 i_p1_length o1.2.2.2 i_p1_limit a_p1_signs) := hD
  refine lv_istore_n (lv' := [(3, .int o1.1), (0, .ref q0), (1, .ref q1), (2, .int p2)]) hx hb dX4_readProduct_6 rfl hl (by decide) rfl (fun ls hl => ?_)
  refine lv_iconst (v := 0) hx hb dX4_readProduct_7 (by decide) ?_
  refine lv_istore (lv' := [(4, .int 0), (3, .int o1.1), (0, .ref q0), (1, .ref q1), (2, .int p2)]) hx hb dX4_readProduct_8 hl (by decide) rfl (fun ls hl => ?_)
  obtain ⟨o15, hg16, hf⟩ := bd_some hf
  refine L10 FU o1.1 0 o1.2.1 o1.2.2.1 o1.2.2.2 o15 hg16 ?_ ?_ _ _ _ (lv_sub hl [2, 3, 4, 1, 0] rfl) hP hD hS
  · intro x17 hxx
    rw [hxx, Sum.elim_inl] at hf
    intro H locs ls hl hP hD hS
    refine lv_iload_n hx hb dX4_readProduct_70 rfl (lv_at hl 0 rfl) ?_
    obtain ⟨g18, hf⟩ := gd_some hf
    have hj0 := Option.some.inj hf
    obtain ⟨ha0, hj1⟩ := Prod.mk.inj hj0
    obtain ⟨ha1, hj2⟩ := Prod.mk.inj hj1
    obtain ⟨ha2, hj3⟩ := Prod.mk.inj hj2
    subst ha0
    subst ha1
    subst ha2
    subst hj3
    exact hret _ _ _ _ dX4_readProduct_71 (isb_n g18) hP hD hS
  · intro x hxx
    rw [hxx, Sum.elim_inr] at hf
    exact Option.some.inj hf
theorem K_RX4_73 : KV RX4 73 yX6_take cX6_take 2 (some .boolean) 1 := ⟨Tg_mem 519 (by decide +kernel) (by decide +kernel), Tg_mem 91 (by decide +kernel) (by decide +kernel), Tg_mem 589 (by decide +kernel) (by decide +kernel), Tg_mem 517 (by decide +kernel) (by decide +kernel), Tg_mem 518 (by decide +kernel) (by decide +kernel), by decide +kernel⟩
theorem K_RX4_77 : KV RX4 77 yX4_readThing cX4_readThing 5 (some .boolean) 2 := ⟨Tg_mem 593 (by decide +kernel) (by decide +kernel), Tg_mem 94 (by decide +kernel) (by decide +kernel), Tg_mem 590 (by decide +kernel) (by decide +kernel), Tg_mem 592 (by decide +kernel) (by decide +kernel), Tg_mem 7 (by decide +kernel) (by decide +kernel), by decide +kernel⟩
theorem dX4_readFactor_0 : decode cX4_readFactor 0 = .ok (.iconst 0, 1) := by decide +kernel
theorem dX4_readFactor_1 : decode cX4_readFactor 1 = .ok (.istore_n 3, 1) := by decide +kernel
theorem dX4_readFactor_2 : decode cX4_readFactor 2 = .ok (.iload_n 3, 1) := by decide +kernel
theorem dX4_readFactor_3 : decode cX4_readFactor 3 = .ok (.bipush 40, 2) := by decide +kernel
theorem dX4_readFactor_5 : decode cX4_readFactor 5 = .ok (.if_icmp .ge 18, 3) := by decide +kernel
theorem dX4_readFactor_8 : decode cX4_readFactor 8 = .ok (.aload_n 1, 1) := by decide +kernel
theorem dX4_readFactor_9 : decode cX4_readFactor 9 = .ok (.bipush 45, 2) := by decide +kernel
theorem dX4_readFactor_11 : decode cX4_readFactor 11 = .ok (.invokevirtual 73, 3) := by decide +kernel
theorem dX4_readFactor_14 : decode cX4_readFactor 14 = .ok (.ifCond .eq 9, 3) := by decide +kernel
theorem dX4_readFactor_17 : decode cX4_readFactor 17 = .ok (.iinc 3 1, 3) := by decide +kernel
theorem dX4_readFactor_20 : decode cX4_readFactor 20 = .ok (.goto (-18), 3) := by decide +kernel
theorem dX4_readFactor_23 : decode cX4_readFactor 23 = .ok (.aload_n 0, 1) := by decide +kernel
theorem dX4_readFactor_24 : decode cX4_readFactor 24 = .ok (.aload_n 1, 1) := by decide +kernel
theorem dX4_readFactor_25 : decode cX4_readFactor 25 = .ok (.iload_n 2, 1) := by decide +kernel
theorem dX4_readFactor_26 : decode cX4_readFactor 26 = .ok (.invokevirtual 77, 3) := by decide +kernel
theorem dX4_readFactor_29 : decode cX4_readFactor 29 = .ok (.ifCond .ne 5, 3) := by decide +kernel
theorem dX4_readFactor_32 : decode cX4_readFactor 32 = .ok (.iconst 0, 1) := by decide +kernel
theorem dX4_readFactor_33 : decode cX4_readFactor 33 = .ok (.ireturn, 1) := by decide +kernel
theorem dX4_readFactor_34 : decode cX4_readFactor 34 = .ok (.iload_n 3, 1) := by decide +kernel
theorem dX4_readFactor_35 : decode cX4_readFactor 35 = .ok (.iconst 2, 1) := by decide +kernel
theorem dX4_readFactor_36 : decode cX4_readFactor 36 = .ok (.irem, 1) := by decide +kernel
theorem dX4_readFactor_37 : decode cX4_readFactor 37 = .ok (.iconst 1, 1) := by decide +kernel
theorem dX4_readFactor_38 : decode cX4_readFactor 38 = .ok (.if_icmp .ne 10, 3) := by decide +kernel
theorem dX4_readFactor_41 : decode cX4_readFactor 41 = .ok (.aload_n 0, 1) := by decide +kernel
theorem dX4_readFactor_42 : decode cX4_readFactor 42 = .ok (.sipush 3000, 3) := by decide +kernel
theorem dX4_readFactor_45 : decode cX4_readFactor 45 = .ok (.invokevirtual 64, 3) := by decide +kernel
theorem dX4_readFactor_48 : decode cX4_readFactor 48 = .ok (.iconst 1, 1) := by decide +kernel
theorem dX4_readFactor_49 : decode cX4_readFactor 49 = .ok (.ireturn, 1) := by decide +kernel
set_option maxHeartbeats 4000000 in
set_option maxRecDepth 20000 in
theorem kX4_readFactor_B (l : Launch) (E : ENV) (d : Nat) (hd9 : 4 ≤ d) (G : Nat → Int32 → (Nat → Int32) → Int32 → Int32 → (Nat → Int32) → Int32 → Option (Int32 × Int32 × (Nat → Int32) × Int32)) (hG4 : ∀ (q0 : Nat) (q0_code : Nat) (q0_draft : Nat) (q0_stack : Nat) (q0_things : Nat) (q1 : Nat) (q1_signs : Nat) (i_length : Int32) (i_drafted : Int32) (a_draft : Nat → Int32) (i_p1_length : Int32) (i_p1_place : Int32) (i_p1_limit : Int32) (a_p1_signs : Nat → Int32) (p2 : Int32) (r9 : Int32) (i_drafted9 : Int32) (a_draft9 : Nat → Int32) (i_p1_place9 : Int32), G 4 i_drafted a_draft i_p1_place i_p1_limit a_p1_signs p2 = some (r9, i_drafted9, a_draft9, i_p1_place9) → CI l E yX4_readThing cX4_readThing 5 (some .boolean) d [.ref q0, .ref q1, .int p2] (WX4_readComparison E q0 q0_code q0_draft q0_stack q0_things q1 q1_signs i_length i_drafted a_draft i_p1_length i_p1_place i_p1_limit a_p1_signs) (WX4_readComparison E q0 q0_code q0_draft q0_stack q0_things q1 q1_signs i_length i_drafted9 a_draft9 i_p1_length i_p1_place9 i_p1_limit a_p1_signs) r9) (q0 : Nat) (q0_code : Nat) (q0_draft : Nat) (q0_stack : Nat) (q0_things : Nat) (q1 : Nat) (q1_signs : Nat) (i_length : Int32) (i_drafted : Int32) (a_draft : Nat → Int32) (i_p1_length : Int32) (i_p1_place : Int32) (i_p1_limit : Int32) (a_p1_signs : Nat → Int32) (p2 : Int32) (r9 : Int32) (i_drafted9 : Int32) (a_draft9 : Nat → Int32) (i_p1_place9 : Int32) (hf : fX4_readFactor_B G i_drafted a_draft i_p1_place i_p1_limit a_p1_signs p2 = some (r9, i_drafted9, a_draft9, i_p1_place9)) : CI l E yX4_readFactor cX4_readFactor 4 (some .boolean) (d + 1) [.ref q0, .ref q1, .int p2] (WX4_readComparison E q0 q0_code q0_draft q0_stack q0_things q1 q1_signs i_length i_drafted a_draft i_p1_length i_p1_place i_p1_limit a_p1_signs) (WX4_readComparison E q0 q0_code q0_draft q0_stack q0_things q1 q1_signs i_length i_drafted9 a_draft9 i_p1_length i_p1_place9 i_p1_limit a_p1_signs) r9 := by
  refine begI (by decide +kernel) (Nat.le_of_ble_eq_true rfl) ?_
  intro p e s m args below meth c A Q C hA hret
  have hx := C.1
  have hb := C.2.1
  have L2 : ∀ (i_drafted : Int32) (a_draft : Nat → Int32), ∀ (n : Nat) (v3 : Int32) (i_p1_place : Int32) (o : Int32 × Int32), fX4_readFactor_L2 i_p1_limit a_p1_signs n v3 i_p1_place = some o → (GO p l e (d + 1) s m args below meth c Q E A 4 23 [] [(0, .ref q0), (1, .ref q1), (2, .int p2), (3, .int o.1)] (WX4_readComparison E q0 q0_code q0_draft q0_stack q0_things q1 q1_signs i_length i_drafted a_draft i_p1_length o.2 i_p1_limit a_p1_signs)) → GO p l e (d + 1) s m args below meth c Q E A 4 2 [] [(0, .ref q0), (1, .ref q1), (2, .int p2), (3, .int v3)] (WX4_readComparison E q0 q0_code q0_draft q0_stack q0_things q1 q1_signs i_length i_drafted a_draft i_p1_length i_p1_place i_p1_limit a_p1_signs) := by
    intro i_drafted a_draft
    intro n
    induction n with
    | zero =>
      intro v3 i_p1_place o hf
      have hf : none = some o := hf
      cases hf
    | succ n ih =>
      intro v3 i_p1_place o hf hE
      intro H locs ls hl hP hD hS
      rw [fX4_readFactor_L2] at hf
      refine lv_iload_n hx hb dX4_readFactor_2 rfl (lv_at hl 3 rfl) ?_
      refine lv_bipush (v := 40) hx hb dX4_readFactor_3 (by decide) ?_
      refine lv_icmp_ge (tgt := 23) hx hb dX4_readFactor_5 (by decide) (fun c1 => ?_) (fun c1 => ?_)
      · rw [if_pos c1] at hf
        have hf := Option.some.inj hf
        subst hf
        exact hE _ _ _ (lv_sub hl [0, 1, 2, 3] rfl) hP hD hS
      · rw [if_neg c1] at hf
        refine lv_aload_n hx hb dX4_readFactor_8 rfl (lv_at hl 1 rfl) ?_
        refine lv_bipush (v := 45) hx hb dX4_readFactor_9 (by decide) ?_
        obtain ⟨o2, hg3, hf⟩ := bd_some hf
        refine k_VI (As := [.int 45]) C K_RX4_73 (by omega) (Nat.le_of_ble_eq_true rfl) (kX6_take l E q1 q1_signs i_p1_length i_p1_place i_p1_limit a_p1_signs 45 o2.1 o2.2 hg3) [2, 3] rfl rfl rfl (ci := 6) rfl rfl (q0 := 0) rfl hP hD hS hA hl.1 (Nat.le_of_ble_eq_true rfl) rfl dX4_readFactor_11 (fun H locs hP hD hS => ?_)
        have hP : va_P E.1 classes (WX4_readComparison E q0 q0_code q0_draft q0_stack q0_things q1 q1_signs i_length i_drafted a_draft i_p1_length o2.2 i_p1_limit a_p1_signs) H := hP
        have hD : va_D A (WX4_readComparison E q0 q0_code q0_draft q0_stack q0_things q1 q1_signs i_length i_drafted a_draft i_p1_length o2.2 i_p1_limit a_p1_signs) := hD
        refine lv_if_eq (tgt := 23) hx hb dX4_readFactor_14 (by decide) (fun c4 => ?_) (fun c4 => ?_)
        · rw [if_pos c4] at hf
          have hf := Option.some.inj hf
          subst hf
          exact hE _ _ _ (lv_sub hl [0, 1, 2, 3] rfl) hP hD hS
        · rw [if_neg c4] at hf
          refine lv_iinc (v := (v3 + 1)) (lv' := [(3, .int ((v3 + 1))), (0, .ref q0), (1, .ref q1), (2, .int p2)]) hx hb dX4_readFactor_17 hl (k := 3) rfl rfl (by decide) rfl (fun ls hl => ?_)
          refine lv_goto (tgt := 2) hx hb dX4_readFactor_20 (by decide) ?_
          exact ih ((v3 + 1)) o2.2 _ hf hE _ _ _ (lv_sub hl [1, 2, 3, 0] rfl) hP hD hS
  have J23 : ∀ (v3 : Int32) (i_drafted : Int32) (a_draft : Nat → Int32) (i_p1_place : Int32), fX4_readFactor_J23 G i_p1_limit a_p1_signs p2 v3 i_drafted a_draft i_p1_place = some (r9, i_drafted9, a_draft9, i_p1_place9) → GO p l e (d + 1) s m args below meth c Q E A 4 23 [] [(0, .ref q0), (1, .ref q1), (2, .int p2), (3, .int v3)] (WX4_readComparison E q0 q0_code q0_draft q0_stack q0_things q1 q1_signs i_length i_drafted a_draft i_p1_length i_p1_place i_p1_limit a_p1_signs) := by
    intro v3 i_drafted a_draft i_p1_place hf H locs ls hl hP hD hS
    unfold fX4_readFactor_J23 at hf
    refine lv_aload_n hx hb dX4_readFactor_23 rfl (lv_at hl 0 rfl) ?_
    refine lv_aload_n hx hb dX4_readFactor_24 rfl (lv_at hl 1 rfl) ?_
    refine lv_iload_n hx hb dX4_readFactor_25 rfl (lv_at hl 2 rfl) ?_
    obtain ⟨o7, hg8, hf⟩ := bd_some hf
    refine k_VI (As := [.ref q1, .int p2]) C K_RX4_77 (Nat.lt_succ_self d) (Nat.le_of_ble_eq_true rfl) (hG4 q0 q0_code q0_draft q0_stack q0_things q1 q1_signs i_length i_drafted a_draft i_p1_length i_p1_place i_p1_limit a_p1_signs p2 o7.1 o7.2.1 o7.2.2.1 o7.2.2.2 hg8) [0, 1, 2, 3] rfl rfl rfl (ci := 4) rfl rfl (q0 := 0) rfl hP hD hS hA hl.1 (Nat.le_of_ble_eq_true rfl) rfl dX4_readFactor_26 (fun H locs hP hD hS => ?_)
    have hP : va_P E.1 classes (WX4_readComparison E q0 q0_code q0_draft q0_stack q0_things q1 q1_signs i_length o7.2.1 o7.2.2.1 i_p1_length o7.2.2.2 i_p1_limit a_p1_signs) H := hP
    have hD : va_D A (WX4_readComparison E q0 q0_code q0_draft q0_stack q0_things q1 q1_signs i_length o7.2.1 o7.2.2.1 i_p1_length o7.2.2.2 i_p1_limit a_p1_signs) := hD
    refine lv_if_ne (tgt := 34) hx hb dX4_readFactor_29 (by decide) (fun c9 => ?_) (fun c9 => ?_)
    · rw [if_neg c9] at hf
      refine lv_iload_n hx hb dX4_readFactor_34 rfl (lv_at hl 3 rfl) ?_
      refine lv_iconst (v := 2) hx hb dX4_readFactor_35 (by decide) ?_
      refine r_irem hx hb dX4_readFactor_36 (by decide) ?_
      refine lv_iconst (v := 1) hx hb dX4_readFactor_37 (by decide) ?_
      refine lv_icmp_ne (tgt := 48) hx hb dX4_readFactor_38 (by decide) (fun c10 => ?_) (fun c10 => ?_)
      · rw [if_neg c10] at hf
        refine lv_iconst (v := 1) hx hb dX4_readFactor_48 (by decide) ?_
        have hj0 := Option.some.inj hf
        obtain ⟨ha0, hj1⟩ := Prod.mk.inj hj0
        obtain ⟨ha1, hj2⟩ := Prod.mk.inj hj1
        obtain ⟨ha2, hj3⟩ := Prod.mk.inj hj2
        subst ha0
        subst ha1
        subst ha2
        subst hj3
        exact hret _ _ _ _ dX4_readFactor_49 rfl hP hD hS
      · rw [if_pos c10] at hf
        refine lv_aload_n hx hb dX4_readFactor_41 rfl (lv_at hl 0 rfl) ?_
        refine lv_sipush (v := 3000) hx hb dX4_readFactor_42 (by decide) ?_
        obtain ⟨o11, hg12, hf⟩ := bd_some hf
        refine k_VV (As := [.int 3000]) C K_RX4_64 (by omega) (Nat.le_of_ble_eq_true rfl) (kX4_put l E q0 q0_code q0_draft q0_stack q0_things i_length o7.2.1 o7.2.2.1 3000 o11.1 o11.2 hg12) [0, 1] rfl rfl rfl (ci := 4) rfl rfl (q0 := 0) rfl hP hD hS hA hl.1 (Nat.le_of_ble_eq_true rfl) rfl dX4_readFactor_45 (fun H locs hP hD hS => ?_)
        have hP : va_P E.1 classes (WX4_readComparison E q0 q0_code q0_draft q0_stack q0_things q1 q1_signs i_length o11.1 o11.2 i_p1_length o7.2.2.2 i_p1_limit a_p1_signs) H := hP
        have hD : va_D A (WX4_readComparison E q0 q0_code q0_draft q0_stack q0_things q1 q1_signs i_length o11.1 o11.2 i_p1_length o7.2.2.2 i_p1_limit a_p1_signs) := hD
        refine lv_iconst (v := 1) hx hb dX4_readFactor_48 (by decide) ?_
        have hj0 := Option.some.inj hf
        obtain ⟨ha0, hj1⟩ := Prod.mk.inj hj0
        obtain ⟨ha1, hj2⟩ := Prod.mk.inj hj1
        obtain ⟨ha2, hj3⟩ := Prod.mk.inj hj2
        subst ha0
        subst ha1
        subst ha2
        subst hj3
        exact hret _ _ _ _ dX4_readFactor_49 rfl hP hD hS
    · rw [if_pos c9] at hf
      refine lv_iconst (v := 0) hx hb dX4_readFactor_32 (by decide) ?_
      have hj0 := Option.some.inj hf
      obtain ⟨ha0, hj1⟩ := Prod.mk.inj hj0
      obtain ⟨ha1, hj2⟩ := Prod.mk.inj hj1
      obtain ⟨ha2, hj3⟩ := Prod.mk.inj hj2
      subst ha0
      subst ha1
      subst ha2
      subst hj3
      exact hret _ _ _ _ dX4_readFactor_33 rfl hP hD hS
  intro H locs ls hl hP hD hS
  have hl : lv_has ls 4 [(0, .ref q0), (1, .ref q1), (2, .int p2)] := hl
  unfold fX4_readFactor_B at hf
  refine lv_iconst (v := 0) hx hb dX4_readFactor_0 (by decide) ?_
  refine lv_istore_n (lv' := [(3, .int 0), (0, .ref q0), (1, .ref q1), (2, .int p2)]) hx hb dX4_readFactor_1 rfl hl (by decide) rfl (fun ls hl => ?_)
  obtain ⟨o5, hg6, hf⟩ := bd_some hf
  refine L2 i_drafted a_draft FU 0 i_p1_place o5 hg6 ?_ _ _ _ (lv_sub hl [1, 2, 3, 0] rfl) hP hD hS
  intro H locs ls hl hP hD hS
  exact J23 o5.1 i_drafted a_draft o5.2 hf _ _ _ (lv_sub hl [0, 1, 2, 3] rfl) hP hD hS
theorem K_RX4_86 : KV RX4 86 yJ0_indexOf_0f7a4 cJ0_indexOf_0f7a4 2 (some .int) 1 := ⟨Tg_mem 605 (by decide +kernel) (by decide +kernel), Tg_mem 104 (by decide +kernel) (by decide +kernel), Tg_mem 602 (by decide +kernel) (by decide +kernel), Tg_mem 603 (by decide +kernel) (by decide +kernel), Tg_mem 604 (by decide +kernel) (by decide +kernel), by decide +kernel⟩
theorem K_RX4_80 : KV RX4 80 yX6_takeNumber cX6_takeNumber 5 (some .int) 1 := ⟨Tg_mem 503 (by decide +kernel) (by decide +kernel), Tg_mem 91 (by decide +kernel) (by decide +kernel), Tg_mem 596 (by decide +kernel) (by decide +kernel), Tg_mem 501 (by decide +kernel) (by decide +kernel), Tg_mem 502 (by decide +kernel) (by decide +kernel), by decide +kernel⟩
theorem K_RX4_38 : KV RX4 38 yX4_readComparison cX4_readComparison 4 (some .boolean) 2 := ⟨Tg_mem 576 (by decide +kernel) (by decide +kernel), Tg_mem 94 (by decide +kernel) (by decide +kernel), Tg_mem 573 (by decide +kernel) (by decide +kernel), Tg_mem 575 (by decide +kernel) (by decide +kernel), Tg_mem 3 (by decide +kernel) (by decide +kernel), by decide +kernel⟩
theorem dX4_readThing_0 : decode cX4_readThing 0 = .ok (.aload_n 1, 1) := by decide +kernel
theorem dX4_readThing_1 : decode cX4_readThing 1 = .ok (.invokevirtual 58, 3) := by decide +kernel
theorem dX4_readThing_4 : decode cX4_readThing 4 = .ok (.istore_n 3, 1) := by decide +kernel
theorem dX4_readThing_5 : decode cX4_readThing 5 = .ok (.iload_n 3, 1) := by decide +kernel
theorem dX4_readThing_6 : decode cX4_readThing 6 = .ok (.bipush 40, 2) := by decide +kernel
theorem dX4_readThing_8 : decode cX4_readThing 8 = .ok (.if_icmp .ne 40, 3) := by decide +kernel
theorem dX4_readThing_11 : decode cX4_readThing 11 = .ok (.iload_n 2, 1) := by decide +kernel
theorem dX4_readThing_12 : decode cX4_readThing 12 = .ok (.iconst 4, 1) := by decide +kernel
theorem dX4_readThing_13 : decode cX4_readThing 13 = .ok (.if_icmp .lt 5, 3) := by decide +kernel
theorem dX4_readThing_16 : decode cX4_readThing 16 = .ok (.iconst 0, 1) := by decide +kernel
theorem dX4_readThing_17 : decode cX4_readThing 17 = .ok (.ireturn, 1) := by decide +kernel
theorem dX4_readThing_18 : decode cX4_readThing 18 = .ok (.aload_n 1, 1) := by decide +kernel
theorem dX4_readThing_19 : decode cX4_readThing 19 = .ok (.invokevirtual 61, 3) := by decide +kernel
theorem dX4_readThing_22 : decode cX4_readThing 22 = .ok (.aload_n 0, 1) := by decide +kernel
theorem dX4_readThing_23 : decode cX4_readThing 23 = .ok (.aload_n 1, 1) := by decide +kernel
theorem dX4_readThing_24 : decode cX4_readThing 24 = .ok (.iload_n 2, 1) := by decide +kernel
theorem dX4_readThing_25 : decode cX4_readThing 25 = .ok (.iconst 1, 1) := by decide +kernel
theorem dX4_readThing_26 : decode cX4_readThing 26 = .ok (.iadd, 1) := by decide +kernel
theorem dX4_readThing_27 : decode cX4_readThing 27 = .ok (.invokevirtual 38, 3) := by decide +kernel
theorem dX4_readThing_30 : decode cX4_readThing 30 = .ok (.ifCond .eq 16, 3) := by decide +kernel
theorem dX4_readThing_33 : decode cX4_readThing 33 = .ok (.aload_n 1, 1) := by decide +kernel
theorem dX4_readThing_34 : decode cX4_readThing 34 = .ok (.bipush 41, 2) := by decide +kernel
theorem dX4_readThing_36 : decode cX4_readThing 36 = .ok (.invokevirtual 73, 3) := by decide +kernel
theorem dX4_readThing_39 : decode cX4_readThing 39 = .ok (.ifCond .eq 7, 3) := by decide +kernel
theorem dX4_readThing_42 : decode cX4_readThing 42 = .ok (.iconst 1, 1) := by decide +kernel
theorem dX4_readThing_43 : decode cX4_readThing 43 = .ok (.goto 4, 3) := by decide +kernel
theorem dX4_readThing_46 : decode cX4_readThing 46 = .ok (.iconst 0, 1) := by decide +kernel
theorem dX4_readThing_47 : decode cX4_readThing 47 = .ok (.ireturn, 1) := by decide +kernel
theorem dX4_readThing_48 : decode cX4_readThing 48 = .ok (.iload_n 3, 1) := by decide +kernel
theorem dX4_readThing_49 : decode cX4_readThing 49 = .ok (.bipush 48, 2) := by decide +kernel
theorem dX4_readThing_51 : decode cX4_readThing 51 = .ok (.if_icmp .lt 20, 3) := by decide +kernel
theorem dX4_readThing_54 : decode cX4_readThing 54 = .ok (.iload_n 3, 1) := by decide +kernel
theorem dX4_readThing_55 : decode cX4_readThing 55 = .ok (.bipush 57, 2) := by decide +kernel
theorem dX4_readThing_57 : decode cX4_readThing 57 = .ok (.if_icmp .gt 14, 3) := by decide +kernel
theorem dX4_readThing_60 : decode cX4_readThing 60 = .ok (.aload_n 0, 1) := by decide +kernel
theorem dX4_readThing_61 : decode cX4_readThing 61 = .ok (.aload_n 1, 1) := by decide +kernel
theorem dX4_readThing_62 : decode cX4_readThing 62 = .ok (.iconst 3, 1) := by decide +kernel
theorem dX4_readThing_63 : decode cX4_readThing 63 = .ok (.invokevirtual 80, 3) := by decide +kernel
theorem dX4_readThing_66 : decode cX4_readThing 66 = .ok (.invokevirtual 64, 3) := by decide +kernel
theorem dX4_readThing_69 : decode cX4_readThing 69 = .ok (.iconst 1, 1) := by decide +kernel
theorem dX4_readThing_70 : decode cX4_readThing 70 = .ok (.ireturn, 1) := by decide +kernel
theorem dX4_readThing_71 : decode cX4_readThing 71 = .ok (.iload_n 3, 1) := by decide +kernel
theorem dX4_readThing_72 : decode cX4_readThing 72 = .ok (.ifCond .ge 7, 3) := by decide +kernel
theorem dX4_readThing_75 : decode cX4_readThing 75 = .ok (.iconst (-1), 1) := by decide +kernel
theorem dX4_readThing_76 : decode cX4_readThing 76 = .ok (.goto 10, 3) := by decide +kernel
theorem dX4_readThing_79 : decode cX4_readThing 79 = .ok (.ldc 84, 2) := by decide +kernel
theorem dX4_readThing_81 : decode cX4_readThing 81 = .ok (.iload_n 3, 1) := by decide +kernel
theorem dX4_readThing_82 : decode cX4_readThing 82 = .ok (.i2c, 1) := by decide +kernel
theorem dX4_readThing_83 : decode cX4_readThing 83 = .ok (.invokevirtual 86, 3) := by decide +kernel
theorem dX4_readThing_86 : decode cX4_readThing 86 = .ok (.istore 4, 2) := by decide +kernel
theorem dX4_readThing_88 : decode cX4_readThing 88 = .ok (.iload 4, 2) := by decide +kernel
theorem dX4_readThing_90 : decode cX4_readThing 90 = .ok (.ifCond .ge 5, 3) := by decide +kernel
theorem dX4_readThing_93 : decode cX4_readThing 93 = .ok (.iconst 0, 1) := by decide +kernel
theorem dX4_readThing_94 : decode cX4_readThing 94 = .ok (.ireturn, 1) := by decide +kernel
theorem dX4_readThing_95 : decode cX4_readThing 95 = .ok (.aload_n 1, 1) := by decide +kernel
theorem dX4_readThing_96 : decode cX4_readThing 96 = .ok (.invokevirtual 61, 3) := by decide +kernel
theorem dX4_readThing_99 : decode cX4_readThing 99 = .ok (.aload_n 0, 1) := by decide +kernel
theorem dX4_readThing_100 : decode cX4_readThing 100 = .ok (.sipush 1000, 3) := by decide +kernel
theorem dX4_readThing_103 : decode cX4_readThing 103 = .ok (.iload 4, 2) := by decide +kernel
theorem dX4_readThing_105 : decode cX4_readThing 105 = .ok (.iadd, 1) := by decide +kernel
theorem dX4_readThing_106 : decode cX4_readThing 106 = .ok (.invokevirtual 64, 3) := by decide +kernel
theorem dX4_readThing_109 : decode cX4_readThing 109 = .ok (.iconst 1, 1) := by decide +kernel
theorem dX4_readThing_110 : decode cX4_readThing 110 = .ok (.ireturn, 1) := by decide +kernel
set_option maxHeartbeats 4000000 in
set_option maxRecDepth 20000 in
theorem kX4_readThing_B (l : Launch) (E : ENV) (d : Nat) (hd9 : 4 ≤ d) (G : Nat → Int32 → (Nat → Int32) → Int32 → Int32 → (Nat → Int32) → Int32 → Option (Int32 × Int32 × (Nat → Int32) × Int32)) (hG0 : ∀ (q0 : Nat) (q0_code : Nat) (q0_draft : Nat) (q0_stack : Nat) (q0_things : Nat) (q1 : Nat) (q1_signs : Nat) (i_length : Int32) (i_drafted : Int32) (a_draft : Nat → Int32) (i_p1_length : Int32) (i_p1_place : Int32) (i_p1_limit : Int32) (a_p1_signs : Nat → Int32) (p2 : Int32) (r9 : Int32) (i_drafted9 : Int32) (a_draft9 : Nat → Int32) (i_p1_place9 : Int32), G 0 i_drafted a_draft i_p1_place i_p1_limit a_p1_signs p2 = some (r9, i_drafted9, a_draft9, i_p1_place9) → CI l E yX4_readComparison cX4_readComparison 4 (some .boolean) d [.ref q0, .ref q1, .int p2] (WX4_readComparison E q0 q0_code q0_draft q0_stack q0_things q1 q1_signs i_length i_drafted a_draft i_p1_length i_p1_place i_p1_limit a_p1_signs) (WX4_readComparison E q0 q0_code q0_draft q0_stack q0_things q1 q1_signs i_length i_drafted9 a_draft9 i_p1_length i_p1_place9 i_p1_limit a_p1_signs) r9) (q0 : Nat) (q0_code : Nat) (q0_draft : Nat) (q0_stack : Nat) (q0_things : Nat) (q1 : Nat) (q1_signs : Nat) (i_length : Int32) (i_drafted : Int32) (a_draft : Nat → Int32) (i_p1_length : Int32) (i_p1_place : Int32) (i_p1_limit : Int32) (a_p1_signs : Nat → Int32) (p2 : Int32) (r9 : Int32) (i_drafted9 : Int32) (a_draft9 : Nat → Int32) (i_p1_place9 : Int32) (hf : fX4_readThing_B G i_drafted a_draft i_p1_place i_p1_limit a_p1_signs p2 = some (r9, i_drafted9, a_draft9, i_p1_place9)) : CI l E yX4_readThing cX4_readThing 5 (some .boolean) (d + 1) [.ref q0, .ref q1, .int p2] (WX4_readComparison E q0 q0_code q0_draft q0_stack q0_things q1 q1_signs i_length i_drafted a_draft i_p1_length i_p1_place i_p1_limit a_p1_signs) (WX4_readComparison E q0 q0_code q0_draft q0_stack q0_things q1 q1_signs i_length i_drafted9 a_draft9 i_p1_length i_p1_place9 i_p1_limit a_p1_signs) r9 := by
  refine begI (by decide +kernel) (Nat.le_of_ble_eq_true rfl) ?_
  intro p e s m args below meth c A Q C hA hret
  have hx := C.1
  have hb := C.2.1
  have J86 : ∀ (s0 : Int32) (i_drafted : Int32) (a_draft : Nat → Int32) (i_p1_place : Int32), fX4_readThing_J86 s0 i_drafted a_draft i_p1_place = some (r9, i_drafted9, a_draft9, i_p1_place9) → GO p l e (d + 1) s m args below meth c Q E A 5 86 [.int s0] [(0, .ref q0), (1, .ref q1)] (WX4_readComparison E q0 q0_code q0_draft q0_stack q0_things q1 q1_signs i_length i_drafted a_draft i_p1_length i_p1_place i_p1_limit a_p1_signs) := by
    intro s0 i_drafted a_draft i_p1_place hf H locs ls hl hP hD hS
    unfold fX4_readThing_J86 at hf
    refine lv_istore (lv' := [(4, .int s0), (0, .ref q0), (1, .ref q1)]) hx hb dX4_readThing_86 hl (by decide) rfl (fun ls hl => ?_)
    refine lv_iload hx hb dX4_readThing_88 (lv_at hl 0 rfl) ?_
    refine lv_if_ge (tgt := 95) hx hb dX4_readThing_90 (by decide) (fun c8 => ?_) (fun c8 => ?_)
    · rw [if_pos c8] at hf
      refine lv_aload_n hx hb dX4_readThing_95 rfl (lv_at hl 2 rfl) ?_
      obtain ⟨o9, hg10, hf⟩ := bd_some hf
      refine k_VV (As := []) C K_RX4_61 (by omega) (Nat.le_of_ble_eq_true rfl) (kX6_skip l E q1 q1_signs i_p1_length i_p1_place i_p1_limit o9 hg10) [2] rfl rfl rfl (ci := 6) rfl rfl (q0 := 0) rfl hP hD hS hA hl.1 (Nat.le_of_ble_eq_true rfl) rfl dX4_readThing_96 (fun H locs hP hD hS => ?_)
      have hP : va_P E.1 classes (WX4_readComparison E q0 q0_code q0_draft q0_stack q0_things q1 q1_signs i_length i_drafted a_draft i_p1_length o9 i_p1_limit a_p1_signs) H := hP
      have hD : va_D A (WX4_readComparison E q0 q0_code q0_draft q0_stack q0_things q1 q1_signs i_length i_drafted a_draft i_p1_length o9 i_p1_limit a_p1_signs) := hD
      refine lv_aload_n hx hb dX4_readThing_99 rfl (lv_at hl 1 rfl) ?_
      refine lv_sipush (v := 1000) hx hb dX4_readThing_100 (by decide) ?_
      refine lv_iload hx hb dX4_readThing_103 (lv_at hl 0 rfl) ?_
      refine lv_iadd hx hb dX4_readThing_105 ?_
      obtain ⟨o11, hg12, hf⟩ := bd_some hf
      refine k_VV (As := [.int ((1000 + s0))]) C K_RX4_64 (by omega) (Nat.le_of_ble_eq_true rfl) (kX4_put l E q0 q0_code q0_draft q0_stack q0_things i_length i_drafted a_draft ((1000 + s0)) o11.1 o11.2 hg12) [0, 1] rfl rfl rfl (ci := 4) rfl rfl (q0 := 0) rfl hP hD hS hA hl.1 (Nat.le_of_ble_eq_true rfl) rfl dX4_readThing_106 (fun H locs hP hD hS => ?_)
      have hP : va_P E.1 classes (WX4_readComparison E q0 q0_code q0_draft q0_stack q0_things q1 q1_signs i_length o11.1 o11.2 i_p1_length o9 i_p1_limit a_p1_signs) H := hP
      have hD : va_D A (WX4_readComparison E q0 q0_code q0_draft q0_stack q0_things q1 q1_signs i_length o11.1 o11.2 i_p1_length o9 i_p1_limit a_p1_signs) := hD
      refine lv_iconst (v := 1) hx hb dX4_readThing_109 (by decide) ?_
      have hj0 := Option.some.inj hf
      obtain ⟨ha0, hj1⟩ := Prod.mk.inj hj0
      obtain ⟨ha1, hj2⟩ := Prod.mk.inj hj1
      obtain ⟨ha2, hj3⟩ := Prod.mk.inj hj2
      subst ha0
      subst ha1
      subst ha2
      subst hj3
      exact hret _ _ _ _ dX4_readThing_110 rfl hP hD hS
    · rw [if_neg c8] at hf
      refine lv_iconst (v := 0) hx hb dX4_readThing_93 (by decide) ?_
      have hj0 := Option.some.inj hf
      obtain ⟨ha0, hj1⟩ := Prod.mk.inj hj0
      obtain ⟨ha1, hj2⟩ := Prod.mk.inj hj1
      obtain ⟨ha2, hj3⟩ := Prod.mk.inj hj2
      subst ha0
      subst ha1
      subst ha2
      subst hj3
      exact hret _ _ _ _ dX4_readThing_94 rfl hP hD hS
  have J71 : ∀ (v3 : Int32) (i_drafted : Int32) (a_draft : Nat → Int32) (i_p1_place : Int32), fX4_readThing_J71 v3 i_drafted a_draft i_p1_place = some (r9, i_drafted9, a_draft9, i_p1_place9) → GO p l e (d + 1) s m args below meth c Q E A 5 71 [] [(0, .ref q0), (1, .ref q1), (3, .int v3)] (WX4_readComparison E q0 q0_code q0_draft q0_stack q0_things q1 q1_signs i_length i_drafted a_draft i_p1_length i_p1_place i_p1_limit a_p1_signs) := by
    intro v3 i_drafted a_draft i_p1_place hf H locs ls hl hP hD hS
    unfold fX4_readThing_J71 at hf
    refine lv_iload_n hx hb dX4_readThing_71 rfl (lv_at hl 2 rfl) ?_
    refine lv_if_ge (tgt := 79) hx hb dX4_readThing_72 (by decide) (fun c5 => ?_) (fun c5 => ?_)
    · rw [if_pos c5] at hf
      refine rs_ldc C dX4_readThing_79 ?_
      refine lv_iload_n hx hb dX4_readThing_81 rfl (lv_at hl 2 rfl) ?_
      refine lv_i2c (v := (((v3).toUInt32 % 65536).toInt32)) hx hb dX4_readThing_82 rfl ?_
      obtain ⟨o6, hg7, hf⟩ := bd_some hf
      refine k_VIS (As := [.int ((((v3).toUInt32 % 65536).toInt32))]) C rfl K_RX4_86 (by omega) (Nat.le_of_ble_eq_true rfl) (kJ0_indexOf_0f7a4 l E ((((v3).toUInt32 % 65536).toInt32)) o6 hg7) hP hD hS hA hl.1 (Nat.le_of_ble_eq_true rfl) rfl dX4_readThing_83 (fun H locs hP hD hS => ?_)
      exact J86 o6 i_drafted a_draft i_p1_place hf _ _ _ (lv_sub hl [0, 1] rfl) hP hD hS
    · rw [if_neg c5] at hf
      refine lv_iconst (v := (-1)) hx hb dX4_readThing_75 (by decide) ?_
      refine lv_goto (tgt := 86) hx hb dX4_readThing_76 (by decide) ?_
      exact J86 ((-1)) i_drafted a_draft i_p1_place hf _ _ _ (lv_sub hl [0, 1] rfl) hP hD hS
  intro H locs ls hl hP hD hS
  have hl : lv_has ls 5 [(0, .ref q0), (1, .ref q1), (2, .int p2)] := hl
  unfold fX4_readThing_B at hf
  refine lv_aload_n hx hb dX4_readThing_0 rfl (lv_at hl 1 rfl) ?_
  obtain ⟨o1, hg2, hf⟩ := bd_some hf
  refine k_VI (As := []) C K_RX4_58 (by omega) (Nat.le_of_ble_eq_true rfl) (kX6_peek l E q1 q1_signs i_p1_length i_p1_place i_p1_limit a_p1_signs o1 hg2) [2, 3] rfl rfl rfl (ci := 6) rfl rfl (q0 := 0) rfl hP hD hS hA hl.1 (Nat.le_of_ble_eq_true rfl) rfl dX4_readThing_1 (fun H locs hP hD hS => ?_)
  have hP : va_P E.1 classes (WX4_readComparison E q0 q0_code q0_draft q0_stack q0_things q1 q1_signs i_length i_drafted a_draft i_p1_length i_p1_place i_p1_limit a_p1_signs) H := hP
  have hD : va_D A (WX4_readComparison E q0 q0_code q0_draft q0_stack q0_things q1 q1_signs i_length i_drafted a_draft i_p1_length i_p1_place i_p1_limit a_p1_signs) := hD
  refine lv_istore_n (lv' := [(3, .int o1), (0, .ref q0), (1, .ref q1), (2, .int p2)]) hx hb dX4_readThing_4 rfl hl (by decide) rfl (fun ls hl => ?_)
  refine lv_iload_n hx hb dX4_readThing_5 rfl (lv_at hl 0 rfl) ?_
  refine lv_bipush (v := 40) hx hb dX4_readThing_6 (by decide) ?_
  refine lv_icmp_ne (tgt := 48) hx hb dX4_readThing_8 (by decide) (fun c3 => ?_) (fun c3 => ?_)
  · rw [if_neg c3] at hf
    refine lv_iload_n hx hb dX4_readThing_48 rfl (lv_at hl 0 rfl) ?_
    refine lv_bipush (v := 48) hx hb dX4_readThing_49 (by decide) ?_
    refine lv_icmp_lt (tgt := 71) hx hb dX4_readThing_51 (by decide) (fun c4 => ?_) (fun c4 => ?_)
    · rw [if_pos c4] at hf
      exact J71 o1 i_drafted a_draft i_p1_place hf _ _ _ (lv_sub hl [1, 2, 0] rfl) hP hD hS
    · rw [if_neg c4] at hf
      refine lv_iload_n hx hb dX4_readThing_54 rfl (lv_at hl 0 rfl) ?_
      refine lv_bipush (v := 57) hx hb dX4_readThing_55 (by decide) ?_
      refine lv_icmp_gt (tgt := 71) hx hb dX4_readThing_57 (by decide) (fun c13 => ?_) (fun c13 => ?_)
      · rw [if_pos c13] at hf
        exact J71 o1 i_drafted a_draft i_p1_place hf _ _ _ (lv_sub hl [1, 2, 0] rfl) hP hD hS
      · rw [if_neg c13] at hf
        refine lv_aload_n hx hb dX4_readThing_60 rfl (lv_at hl 1 rfl) ?_
        refine lv_aload_n hx hb dX4_readThing_61 rfl (lv_at hl 2 rfl) ?_
        refine lv_iconst (v := 3) hx hb dX4_readThing_62 (by decide) ?_
        obtain ⟨o14, hg15, hf⟩ := bd_some hf
        refine k_VI (As := [.int 3]) C K_RX4_80 (by omega) (Nat.le_of_ble_eq_true rfl) (kX6_takeNumber l E q1 q1_signs i_p1_length i_p1_place i_p1_limit a_p1_signs 3 o14.1 o14.2 hg15) [2, 3] rfl rfl rfl (ci := 6) rfl rfl (q0 := 0) rfl hP hD hS hA hl.1 (Nat.le_of_ble_eq_true rfl) rfl dX4_readThing_63 (fun H locs hP hD hS => ?_)
        have hP : va_P E.1 classes (WX4_readComparison E q0 q0_code q0_draft q0_stack q0_things q1 q1_signs i_length i_drafted a_draft i_p1_length o14.2 i_p1_limit a_p1_signs) H := hP
        have hD : va_D A (WX4_readComparison E q0 q0_code q0_draft q0_stack q0_things q1 q1_signs i_length i_drafted a_draft i_p1_length o14.2 i_p1_limit a_p1_signs) := hD
        obtain ⟨o16, hg17, hf⟩ := bd_some hf
        refine k_VV (As := [.int o14.1]) C K_RX4_64 (by omega) (Nat.le_of_ble_eq_true rfl) (kX4_put l E q0 q0_code q0_draft q0_stack q0_things i_length i_drafted a_draft o14.1 o16.1 o16.2 hg17) [0, 1] rfl rfl rfl (ci := 4) rfl rfl (q0 := 0) rfl hP hD hS hA hl.1 (Nat.le_of_ble_eq_true rfl) rfl dX4_readThing_66 (fun H locs hP hD hS => ?_)
        have hP : va_P E.1 classes (WX4_readComparison E q0 q0_code q0_draft q0_stack q0_things q1 q1_signs i_length o16.1 o16.2 i_p1_length o14.2 i_p1_limit a_p1_signs) H := hP
        have hD : va_D A (WX4_readComparison E q0 q0_code q0_draft q0_stack q0_things q1 q1_signs i_length o16.1 o16.2 i_p1_length o14.2 i_p1_limit a_p1_signs) := hD
        refine lv_iconst (v := 1) hx hb dX4_readThing_69 (by decide) ?_
        have hj0 := Option.some.inj hf
        obtain ⟨ha0, hj1⟩ := Prod.mk.inj hj0
        obtain ⟨ha1, hj2⟩ := Prod.mk.inj hj1
        obtain ⟨ha2, hj3⟩ := Prod.mk.inj hj2
        subst ha0
        subst ha1
        subst ha2
        subst hj3
        exact hret _ _ _ _ dX4_readThing_70 rfl hP hD hS
  · rw [if_pos c3] at hf
    refine lv_iload_n hx hb dX4_readThing_11 rfl (lv_at hl 3 rfl) ?_
    refine lv_iconst (v := 4) hx hb dX4_readThing_12 (by decide) ?_
    refine lv_icmp_lt (tgt := 18) hx hb dX4_readThing_13 (by decide) (fun c18 => ?_) (fun c18 => ?_)
    · rw [if_pos c18] at hf
      refine lv_aload_n hx hb dX4_readThing_18 rfl (lv_at hl 2 rfl) ?_
      obtain ⟨o19, hg20, hf⟩ := bd_some hf
      refine k_VV (As := []) C K_RX4_61 (by omega) (Nat.le_of_ble_eq_true rfl) (kX6_skip l E q1 q1_signs i_p1_length i_p1_place i_p1_limit o19 hg20) [2] rfl rfl rfl (ci := 6) rfl rfl (q0 := 0) rfl hP hD hS hA hl.1 (Nat.le_of_ble_eq_true rfl) rfl dX4_readThing_19 (fun H locs hP hD hS => ?_)
      have hP : va_P E.1 classes (WX4_readComparison E q0 q0_code q0_draft q0_stack q0_things q1 q1_signs i_length i_drafted a_draft i_p1_length o19 i_p1_limit a_p1_signs) H := hP
      have hD : va_D A (WX4_readComparison E q0 q0_code q0_draft q0_stack q0_things q1 q1_signs i_length i_drafted a_draft i_p1_length o19 i_p1_limit a_p1_signs) := hD
      refine lv_aload_n hx hb dX4_readThing_22 rfl (lv_at hl 1 rfl) ?_
      refine lv_aload_n hx hb dX4_readThing_23 rfl (lv_at hl 2 rfl) ?_
      refine lv_iload_n hx hb dX4_readThing_24 rfl (lv_at hl 3 rfl) ?_
      refine lv_iconst (v := 1) hx hb dX4_readThing_25 (by decide) ?_
      refine lv_iadd hx hb dX4_readThing_26 ?_
      obtain ⟨o21, hg22, hf⟩ := bd_some hf
      refine k_VI (As := [.ref q1, .int ((p2 + 1))]) C K_RX4_38 (Nat.lt_succ_self d) (Nat.le_of_ble_eq_true rfl) (hG0 q0 q0_code q0_draft q0_stack q0_things q1 q1_signs i_length i_drafted a_draft i_p1_length o19 i_p1_limit a_p1_signs ((p2 + 1)) o21.1 o21.2.1 o21.2.2.1 o21.2.2.2 hg22) [0, 1, 2, 3] rfl rfl rfl (ci := 4) rfl rfl (q0 := 0) rfl hP hD hS hA hl.1 (Nat.le_of_ble_eq_true rfl) rfl dX4_readThing_27 (fun H locs hP hD hS => ?_)
      have hP : va_P E.1 classes (WX4_readComparison E q0 q0_code q0_draft q0_stack q0_things q1 q1_signs i_length o21.2.1 o21.2.2.1 i_p1_length o21.2.2.2 i_p1_limit a_p1_signs) H := hP
      have hD : va_D A (WX4_readComparison E q0 q0_code q0_draft q0_stack q0_things q1 q1_signs i_length o21.2.1 o21.2.2.1 i_p1_length o21.2.2.2 i_p1_limit a_p1_signs) := hD
      refine lv_if_eq (tgt := 46) hx hb dX4_readThing_30 (by decide) (fun c23 => ?_) (fun c23 => ?_)
      · rw [if_pos c23] at hf
        refine lv_iconst (v := 0) hx hb dX4_readThing_46 (by decide) ?_
        have hj0 := Option.some.inj hf
        obtain ⟨ha0, hj1⟩ := Prod.mk.inj hj0
        obtain ⟨ha1, hj2⟩ := Prod.mk.inj hj1
        obtain ⟨ha2, hj3⟩ := Prod.mk.inj hj2
        subst ha0
        subst ha1
        subst ha2
        subst hj3
        exact hret _ _ _ _ dX4_readThing_47 rfl hP hD hS
      · rw [if_neg c23] at hf
        refine lv_aload_n hx hb dX4_readThing_33 rfl (lv_at hl 2 rfl) ?_
        refine lv_bipush (v := 41) hx hb dX4_readThing_34 (by decide) ?_
        obtain ⟨o24, hg25, hf⟩ := bd_some hf
        refine k_VI (As := [.int 41]) C K_RX4_73 (by omega) (Nat.le_of_ble_eq_true rfl) (kX6_take l E q1 q1_signs i_p1_length o21.2.2.2 i_p1_limit a_p1_signs 41 o24.1 o24.2 hg25) [2, 3] rfl rfl rfl (ci := 6) rfl rfl (q0 := 0) rfl hP hD hS hA hl.1 (Nat.le_of_ble_eq_true rfl) rfl dX4_readThing_36 (fun H locs hP hD hS => ?_)
        have hP : va_P E.1 classes (WX4_readComparison E q0 q0_code q0_draft q0_stack q0_things q1 q1_signs i_length o21.2.1 o21.2.2.1 i_p1_length o24.2 i_p1_limit a_p1_signs) H := hP
        have hD : va_D A (WX4_readComparison E q0 q0_code q0_draft q0_stack q0_things q1 q1_signs i_length o21.2.1 o21.2.2.1 i_p1_length o24.2 i_p1_limit a_p1_signs) := hD
        refine lv_if_eq (tgt := 46) hx hb dX4_readThing_39 (by decide) (fun c26 => ?_) (fun c26 => ?_)
        · rw [if_pos c26] at hf
          refine lv_iconst (v := 0) hx hb dX4_readThing_46 (by decide) ?_
          have hj0 := Option.some.inj hf
          obtain ⟨ha0, hj1⟩ := Prod.mk.inj hj0
          obtain ⟨ha1, hj2⟩ := Prod.mk.inj hj1
          obtain ⟨ha2, hj3⟩ := Prod.mk.inj hj2
          subst ha0
          subst ha1
          subst ha2
          subst hj3
          exact hret _ _ _ _ dX4_readThing_47 rfl hP hD hS
        · rw [if_neg c26] at hf
          refine lv_iconst (v := 1) hx hb dX4_readThing_42 (by decide) ?_
          refine lv_goto (tgt := 47) hx hb dX4_readThing_43 (by decide) ?_
          have hj0 := Option.some.inj hf
          obtain ⟨ha0, hj1⟩ := Prod.mk.inj hj0
          obtain ⟨ha1, hj2⟩ := Prod.mk.inj hj1
          obtain ⟨ha2, hj3⟩ := Prod.mk.inj hj2
          subst ha0
          subst ha1
          subst ha2
          subst hj3
          exact hret _ _ _ _ dX4_readThing_47 rfl hP hD hS
    · rw [if_neg c18] at hf
      refine lv_iconst (v := 0) hx hb dX4_readThing_16 (by decide) ?_
      have hj0 := Option.some.inj hf
      obtain ⟨ha0, hj1⟩ := Prod.mk.inj hj0
      obtain ⟨ha1, hj2⟩ := Prod.mk.inj hj1
      obtain ⟨ha2, hj3⟩ := Prod.mk.inj hj2
      subst ha0
      subst ha1
      subst ha2
      subst hj3
      exact hret _ _ _ _ dX4_readThing_17 rfl hP hD hS
set_option maxHeartbeats 4000000 in
set_option maxRecDepth 20000 in
theorem krul : ∀ n : Nat, (∀ (l : Launch) (E : ENV), ∀ (q0 : Nat) (q0_code : Nat) (q0_draft : Nat) (q0_stack : Nat) (q0_things : Nat) (q1 : Nat) (q1_signs : Nat) (i_length : Int32) (i_drafted : Int32) (a_draft : Nat → Int32) (i_p1_length : Int32) (i_p1_place : Int32) (i_p1_limit : Int32) (a_p1_signs : Nat → Int32) (p2 : Int32) (r9 : Int32) (i_drafted9 : Int32) (a_draft9 : Nat → Int32) (i_p1_place9 : Int32), frul n 0 i_drafted a_draft i_p1_place i_p1_limit a_p1_signs p2 = some (r9, i_drafted9, a_draft9, i_p1_place9) → CI l E yX4_readComparison cX4_readComparison 4 (some .boolean) (4 + n) [.ref q0, .ref q1, .int p2] (WX4_readComparison E q0 q0_code q0_draft q0_stack q0_things q1 q1_signs i_length i_drafted a_draft i_p1_length i_p1_place i_p1_limit a_p1_signs) (WX4_readComparison E q0 q0_code q0_draft q0_stack q0_things q1 q1_signs i_length i_drafted9 a_draft9 i_p1_length i_p1_place9 i_p1_limit a_p1_signs) r9) ∧ (∀ (l : Launch) (E : ENV), ∀ (q0 : Nat) (q0_code : Nat) (q0_draft : Nat) (q0_stack : Nat) (q0_things : Nat) (q1 : Nat) (q1_signs : Nat) (i_length : Int32) (i_drafted : Int32) (a_draft : Nat → Int32) (i_p1_length : Int32) (i_p1_place : Int32) (i_p1_limit : Int32) (a_p1_signs : Nat → Int32) (p2 : Int32) (r9 : Int32) (i_drafted9 : Int32) (a_draft9 : Nat → Int32) (i_p1_place9 : Int32), frul n 1 i_drafted a_draft i_p1_place i_p1_limit a_p1_signs p2 = some (r9, i_drafted9, a_draft9, i_p1_place9) → CI l E yX4_readSum cX4_readSum 6 (some .boolean) (4 + n) [.ref q0, .ref q1, .int p2] (WX4_readComparison E q0 q0_code q0_draft q0_stack q0_things q1 q1_signs i_length i_drafted a_draft i_p1_length i_p1_place i_p1_limit a_p1_signs) (WX4_readComparison E q0 q0_code q0_draft q0_stack q0_things q1 q1_signs i_length i_drafted9 a_draft9 i_p1_length i_p1_place9 i_p1_limit a_p1_signs) r9) ∧ (∀ (l : Launch) (E : ENV), ∀ (q0 : Nat) (q0_code : Nat) (q0_draft : Nat) (q0_stack : Nat) (q0_things : Nat) (q1 : Nat) (q1_signs : Nat) (i_length : Int32) (i_drafted : Int32) (a_draft : Nat → Int32) (i_p1_length : Int32) (i_p1_place : Int32) (i_p1_limit : Int32) (a_p1_signs : Nat → Int32) (p2 : Int32) (r9 : Int32) (i_drafted9 : Int32) (a_draft9 : Nat → Int32) (i_p1_place9 : Int32), frul n 2 i_drafted a_draft i_p1_place i_p1_limit a_p1_signs p2 = some (r9, i_drafted9, a_draft9, i_p1_place9) → CI l E yX4_readProduct cX4_readProduct 6 (some .boolean) (4 + n) [.ref q0, .ref q1, .int p2] (WX4_readComparison E q0 q0_code q0_draft q0_stack q0_things q1 q1_signs i_length i_drafted a_draft i_p1_length i_p1_place i_p1_limit a_p1_signs) (WX4_readComparison E q0 q0_code q0_draft q0_stack q0_things q1 q1_signs i_length i_drafted9 a_draft9 i_p1_length i_p1_place9 i_p1_limit a_p1_signs) r9) ∧ (∀ (l : Launch) (E : ENV), ∀ (q0 : Nat) (q0_code : Nat) (q0_draft : Nat) (q0_stack : Nat) (q0_things : Nat) (q1 : Nat) (q1_signs : Nat) (i_length : Int32) (i_drafted : Int32) (a_draft : Nat → Int32) (i_p1_length : Int32) (i_p1_place : Int32) (i_p1_limit : Int32) (a_p1_signs : Nat → Int32) (p2 : Int32) (r9 : Int32) (i_drafted9 : Int32) (a_draft9 : Nat → Int32) (i_p1_place9 : Int32), frul n 3 i_drafted a_draft i_p1_place i_p1_limit a_p1_signs p2 = some (r9, i_drafted9, a_draft9, i_p1_place9) → CI l E yX4_readFactor cX4_readFactor 4 (some .boolean) (4 + n) [.ref q0, .ref q1, .int p2] (WX4_readComparison E q0 q0_code q0_draft q0_stack q0_things q1 q1_signs i_length i_drafted a_draft i_p1_length i_p1_place i_p1_limit a_p1_signs) (WX4_readComparison E q0 q0_code q0_draft q0_stack q0_things q1 q1_signs i_length i_drafted9 a_draft9 i_p1_length i_p1_place9 i_p1_limit a_p1_signs) r9) ∧ (∀ (l : Launch) (E : ENV), ∀ (q0 : Nat) (q0_code : Nat) (q0_draft : Nat) (q0_stack : Nat) (q0_things : Nat) (q1 : Nat) (q1_signs : Nat) (i_length : Int32) (i_drafted : Int32) (a_draft : Nat → Int32) (i_p1_length : Int32) (i_p1_place : Int32) (i_p1_limit : Int32) (a_p1_signs : Nat → Int32) (p2 : Int32) (r9 : Int32) (i_drafted9 : Int32) (a_draft9 : Nat → Int32) (i_p1_place9 : Int32), frul n 4 i_drafted a_draft i_p1_place i_p1_limit a_p1_signs p2 = some (r9, i_drafted9, a_draft9, i_p1_place9) → CI l E yX4_readThing cX4_readThing 5 (some .boolean) (4 + n) [.ref q0, .ref q1, .int p2] (WX4_readComparison E q0 q0_code q0_draft q0_stack q0_things q1 q1_signs i_length i_drafted a_draft i_p1_length i_p1_place i_p1_limit a_p1_signs) (WX4_readComparison E q0 q0_code q0_draft q0_stack q0_things q1 q1_signs i_length i_drafted9 a_draft9 i_p1_length i_p1_place9 i_p1_limit a_p1_signs) r9) := by
  intro n
  induction n with
  | zero =>
    refine ⟨?_, ?_, ?_, ?_, ?_⟩
    · intro l E q0 q0_code q0_draft q0_stack q0_things q1 q1_signs i_length i_drafted a_draft i_p1_length i_p1_place i_p1_limit a_p1_signs p2 r9 i_drafted9 a_draft9 i_p1_place9 hf
      have hf : none = some (r9, i_drafted9, a_draft9, i_p1_place9) := hf
      cases hf
    · intro l E q0 q0_code q0_draft q0_stack q0_things q1 q1_signs i_length i_drafted a_draft i_p1_length i_p1_place i_p1_limit a_p1_signs p2 r9 i_drafted9 a_draft9 i_p1_place9 hf
      have hf : none = some (r9, i_drafted9, a_draft9, i_p1_place9) := hf
      cases hf
    · intro l E q0 q0_code q0_draft q0_stack q0_things q1 q1_signs i_length i_drafted a_draft i_p1_length i_p1_place i_p1_limit a_p1_signs p2 r9 i_drafted9 a_draft9 i_p1_place9 hf
      have hf : none = some (r9, i_drafted9, a_draft9, i_p1_place9) := hf
      cases hf
    · intro l E q0 q0_code q0_draft q0_stack q0_things q1 q1_signs i_length i_drafted a_draft i_p1_length i_p1_place i_p1_limit a_p1_signs p2 r9 i_drafted9 a_draft9 i_p1_place9 hf
      have hf : none = some (r9, i_drafted9, a_draft9, i_p1_place9) := hf
      cases hf
    · intro l E q0 q0_code q0_draft q0_stack q0_things q1 q1_signs i_length i_drafted a_draft i_p1_length i_p1_place i_p1_limit a_p1_signs p2 r9 i_drafted9 a_draft9 i_p1_place9 hf
      have hf : none = some (r9, i_drafted9, a_draft9, i_p1_place9) := hf
      cases hf
  | succ n ih =>
    refine ⟨?_, ?_, ?_, ?_, ?_⟩
    · intro l E q0 q0_code q0_draft q0_stack q0_things q1 q1_signs i_length i_drafted a_draft i_p1_length i_p1_place i_p1_limit a_p1_signs p2 r9 i_drafted9 a_draft9 i_p1_place9 hf
      exact kX4_readComparison_B l E (4 + n) (Nat.le_add_right _ _) (frul n) (ih.2.1 l E) q0 q0_code q0_draft q0_stack q0_things q1 q1_signs i_length i_drafted a_draft i_p1_length i_p1_place i_p1_limit a_p1_signs p2 r9 i_drafted9 a_draft9 i_p1_place9 hf
    · intro l E q0 q0_code q0_draft q0_stack q0_things q1 q1_signs i_length i_drafted a_draft i_p1_length i_p1_place i_p1_limit a_p1_signs p2 r9 i_drafted9 a_draft9 i_p1_place9 hf
      exact kX4_readSum_B l E (4 + n) (Nat.le_add_right _ _) (frul n) (ih.2.2.1 l E) q0 q0_code q0_draft q0_stack q0_things q1 q1_signs i_length i_drafted a_draft i_p1_length i_p1_place i_p1_limit a_p1_signs p2 r9 i_drafted9 a_draft9 i_p1_place9 hf
    · intro l E q0 q0_code q0_draft q0_stack q0_things q1 q1_signs i_length i_drafted a_draft i_p1_length i_p1_place i_p1_limit a_p1_signs p2 r9 i_drafted9 a_draft9 i_p1_place9 hf
      exact kX4_readProduct_B l E (4 + n) (Nat.le_add_right _ _) (frul n) (ih.2.2.2.1 l E) q0 q0_code q0_draft q0_stack q0_things q1 q1_signs i_length i_drafted a_draft i_p1_length i_p1_place i_p1_limit a_p1_signs p2 r9 i_drafted9 a_draft9 i_p1_place9 hf
    · intro l E q0 q0_code q0_draft q0_stack q0_things q1 q1_signs i_length i_drafted a_draft i_p1_length i_p1_place i_p1_limit a_p1_signs p2 r9 i_drafted9 a_draft9 i_p1_place9 hf
      exact kX4_readFactor_B l E (4 + n) (Nat.le_add_right _ _) (frul n) (ih.2.2.2.2 l E) q0 q0_code q0_draft q0_stack q0_things q1 q1_signs i_length i_drafted a_draft i_p1_length i_p1_place i_p1_limit a_p1_signs p2 r9 i_drafted9 a_draft9 i_p1_place9 hf
    · intro l E q0 q0_code q0_draft q0_stack q0_things q1 q1_signs i_length i_drafted a_draft i_p1_length i_p1_place i_p1_limit a_p1_signs p2 r9 i_drafted9 a_draft9 i_p1_place9 hf
      exact kX4_readThing_B l E (4 + n) (Nat.le_add_right _ _) (frul n) (ih.1 l E) q0 q0_code q0_draft q0_stack q0_things q1 q1_signs i_length i_drafted a_draft i_p1_length i_p1_place i_p1_limit a_p1_signs p2 r9 i_drafted9 a_draft9 i_p1_place9 hf
theorem kX4_readComparison (l : Launch) (E : ENV) (q0 : Nat) (q0_code : Nat) (q0_draft : Nat) (q0_stack : Nat) (q0_things : Nat) (q1 : Nat) (q1_signs : Nat) (i_length : Int32) (i_drafted : Int32) (a_draft : Nat → Int32) (i_p1_length : Int32) (i_p1_place : Int32) (i_p1_limit : Int32) (a_p1_signs : Nat → Int32) (p2 : Int32) (r9 : Int32) (i_drafted9 : Int32) (a_draft9 : Nat → Int32) (i_p1_place9 : Int32) (hf : fX4_readComparison i_drafted a_draft i_p1_place i_p1_limit a_p1_signs p2 = some (r9, i_drafted9, a_draft9, i_p1_place9)) : CI l E yX4_readComparison cX4_readComparison 4 (some .boolean) 34 [.ref q0, .ref q1, .int p2] (WX4_readComparison E q0 q0_code q0_draft q0_stack q0_things q1 q1_signs i_length i_drafted a_draft i_p1_length i_p1_place i_p1_limit a_p1_signs) (WX4_readComparison E q0 q0_code q0_draft q0_stack q0_things q1 q1_signs i_length i_drafted9 a_draft9 i_p1_length i_p1_place9 i_p1_limit a_p1_signs) r9 := (krul 30).1 l E q0 q0_code q0_draft q0_stack q0_things q1 q1_signs i_length i_drafted a_draft i_p1_length i_p1_place i_p1_limit a_p1_signs p2 r9 i_drafted9 a_draft9 i_p1_place9 hf
theorem kX4_readSum (l : Launch) (E : ENV) (q0 : Nat) (q0_code : Nat) (q0_draft : Nat) (q0_stack : Nat) (q0_things : Nat) (q1 : Nat) (q1_signs : Nat) (i_length : Int32) (i_drafted : Int32) (a_draft : Nat → Int32) (i_p1_length : Int32) (i_p1_place : Int32) (i_p1_limit : Int32) (a_p1_signs : Nat → Int32) (p2 : Int32) (r9 : Int32) (i_drafted9 : Int32) (a_draft9 : Nat → Int32) (i_p1_place9 : Int32) (hf : fX4_readSum i_drafted a_draft i_p1_place i_p1_limit a_p1_signs p2 = some (r9, i_drafted9, a_draft9, i_p1_place9)) : CI l E yX4_readSum cX4_readSum 6 (some .boolean) 34 [.ref q0, .ref q1, .int p2] (WX4_readComparison E q0 q0_code q0_draft q0_stack q0_things q1 q1_signs i_length i_drafted a_draft i_p1_length i_p1_place i_p1_limit a_p1_signs) (WX4_readComparison E q0 q0_code q0_draft q0_stack q0_things q1 q1_signs i_length i_drafted9 a_draft9 i_p1_length i_p1_place9 i_p1_limit a_p1_signs) r9 := (krul 30).2.1 l E q0 q0_code q0_draft q0_stack q0_things q1 q1_signs i_length i_drafted a_draft i_p1_length i_p1_place i_p1_limit a_p1_signs p2 r9 i_drafted9 a_draft9 i_p1_place9 hf
theorem kX4_readProduct (l : Launch) (E : ENV) (q0 : Nat) (q0_code : Nat) (q0_draft : Nat) (q0_stack : Nat) (q0_things : Nat) (q1 : Nat) (q1_signs : Nat) (i_length : Int32) (i_drafted : Int32) (a_draft : Nat → Int32) (i_p1_length : Int32) (i_p1_place : Int32) (i_p1_limit : Int32) (a_p1_signs : Nat → Int32) (p2 : Int32) (r9 : Int32) (i_drafted9 : Int32) (a_draft9 : Nat → Int32) (i_p1_place9 : Int32) (hf : fX4_readProduct i_drafted a_draft i_p1_place i_p1_limit a_p1_signs p2 = some (r9, i_drafted9, a_draft9, i_p1_place9)) : CI l E yX4_readProduct cX4_readProduct 6 (some .boolean) 34 [.ref q0, .ref q1, .int p2] (WX4_readComparison E q0 q0_code q0_draft q0_stack q0_things q1 q1_signs i_length i_drafted a_draft i_p1_length i_p1_place i_p1_limit a_p1_signs) (WX4_readComparison E q0 q0_code q0_draft q0_stack q0_things q1 q1_signs i_length i_drafted9 a_draft9 i_p1_length i_p1_place9 i_p1_limit a_p1_signs) r9 := (krul 30).2.2.1 l E q0 q0_code q0_draft q0_stack q0_things q1 q1_signs i_length i_drafted a_draft i_p1_length i_p1_place i_p1_limit a_p1_signs p2 r9 i_drafted9 a_draft9 i_p1_place9 hf
theorem kX4_readFactor (l : Launch) (E : ENV) (q0 : Nat) (q0_code : Nat) (q0_draft : Nat) (q0_stack : Nat) (q0_things : Nat) (q1 : Nat) (q1_signs : Nat) (i_length : Int32) (i_drafted : Int32) (a_draft : Nat → Int32) (i_p1_length : Int32) (i_p1_place : Int32) (i_p1_limit : Int32) (a_p1_signs : Nat → Int32) (p2 : Int32) (r9 : Int32) (i_drafted9 : Int32) (a_draft9 : Nat → Int32) (i_p1_place9 : Int32) (hf : fX4_readFactor i_drafted a_draft i_p1_place i_p1_limit a_p1_signs p2 = some (r9, i_drafted9, a_draft9, i_p1_place9)) : CI l E yX4_readFactor cX4_readFactor 4 (some .boolean) 34 [.ref q0, .ref q1, .int p2] (WX4_readComparison E q0 q0_code q0_draft q0_stack q0_things q1 q1_signs i_length i_drafted a_draft i_p1_length i_p1_place i_p1_limit a_p1_signs) (WX4_readComparison E q0 q0_code q0_draft q0_stack q0_things q1 q1_signs i_length i_drafted9 a_draft9 i_p1_length i_p1_place9 i_p1_limit a_p1_signs) r9 := (krul 30).2.2.2.1 l E q0 q0_code q0_draft q0_stack q0_things q1 q1_signs i_length i_drafted a_draft i_p1_length i_p1_place i_p1_limit a_p1_signs p2 r9 i_drafted9 a_draft9 i_p1_place9 hf
theorem kX4_readThing (l : Launch) (E : ENV) (q0 : Nat) (q0_code : Nat) (q0_draft : Nat) (q0_stack : Nat) (q0_things : Nat) (q1 : Nat) (q1_signs : Nat) (i_length : Int32) (i_drafted : Int32) (a_draft : Nat → Int32) (i_p1_length : Int32) (i_p1_place : Int32) (i_p1_limit : Int32) (a_p1_signs : Nat → Int32) (p2 : Int32) (r9 : Int32) (i_drafted9 : Int32) (a_draft9 : Nat → Int32) (i_p1_place9 : Int32) (hf : fX4_readThing i_drafted a_draft i_p1_place i_p1_limit a_p1_signs p2 = some (r9, i_drafted9, a_draft9, i_p1_place9)) : CI l E yX4_readThing cX4_readThing 5 (some .boolean) 34 [.ref q0, .ref q1, .int p2] (WX4_readComparison E q0 q0_code q0_draft q0_stack q0_things q1 q1_signs i_length i_drafted a_draft i_p1_length i_p1_place i_p1_limit a_p1_signs) (WX4_readComparison E q0 q0_code q0_draft q0_stack q0_things q1 q1_signs i_length i_drafted9 a_draft9 i_p1_length i_p1_place9 i_p1_limit a_p1_signs) r9 := (krul 30).2.2.2.2 l E q0 q0_code q0_draft q0_stack q0_things q1 q1_signs i_length i_drafted a_draft i_p1_length i_p1_place i_p1_limit a_p1_signs p2 r9 i_drafted9 a_draft9 i_p1_place9 hf
theorem K_RX4_24 : KV RX4 24 yX6_open cX6_open 2 none 1 := ⟨Tg_mem 488 (by decide +kernel) (by decide +kernel), Tg_mem 91 (by decide +kernel) (by decide +kernel), Tg_mem 571 (by decide +kernel) (by decide +kernel), Tg_mem 486 (by decide +kernel) (by decide +kernel), Tg_mem 487 (by decide +kernel) (by decide +kernel), by decide +kernel⟩
theorem K_RX4_34 : KV RX4 34 yX6_isThrough cX6_isThrough 1 (some .boolean) 0 := ⟨Tg_mem 495 (by decide +kernel) (by decide +kernel), Tg_mem 91 (by decide +kernel) (by decide +kernel), Tg_mem 572 (by decide +kernel) (by decide +kernel), Tg_mem 493 (by decide +kernel) (by decide +kernel), Tg_mem 494 (by decide +kernel) (by decide +kernel), by decide +kernel⟩
theorem q685 : Cond.methodLink RX4 46 arraycopyName ∈ Tg := Tg_mem 685 (by decide +kernel) (by decide +kernel)
theorem pf_RX4_52 {p : Program} {l : Launch} {e : Env} {R : Room} {s : State} {m : MethodId} {args : Array Value} {below : List Frame} {meth : Method} {c : Code} {H : Heap} {locs : List Loc} {cells slots : Nat} {Q : State → Prop} {E : ENV} {cc : ByteArray} {n : Nat} {r : Option FieldType} {pc : Nat} {ls : Array Slot} {rest : List Value} {a : Nat} {ws : va_W} {nm ds : String} {fs : List Value} {A : Nat → Prop} {H0 : Heap} {x : Int32} (C : Cx E A ⟨RX4, nm, ds⟩ cc n r p s m args meth c) (hP : va_P E.1 classes ws H) (hD : va_D A ws) (hS : va_S A H0 H locs) (q0 : Nat) (he : ws[q0]? = some (a, .inr (4, fs))) (hl : 4 < fs.length) (hdg : decode cc pc = .ok (.putfield 52, 3))
    (kk : ∀ (H1 : Heap) (locs1 : List Loc), va_P E.1 classes (ws.set q0 (a, .inr (4, fs.set 4 (.int x)))) H1 → va_D A (ws.set q0 (a, .inr (4, fs.set 4 (.int x)))) → va_S A H0 H1 locs1 → W p l e R s m args below meth c H1 locs1 cells slots Q (F0 m (pc + 3) ls rest)) : W p l e R s m args below meth c H locs cells slots Q (F0 m pc ls (.int x :: .ref a :: rest)) :=
  va_put (C := RX4) (T := TX4) (N := 6) (ty := .int) (Ts := wl ⟨RX4, nm, ds⟩ cc n r) C.1 C.2.1 C.2.2.2.2.1 (fun w h => List.mem_cons_of_mem _ (inT4 w h)) tyX4 tyX4_ok nmX4 C.2.2.2.1 C.2.2.2.2.2.1 hP hD hS q0 he rfl 4 (by decide) (C.2.2.2.2.1 _ (List.mem_cons_of_mem _ q199)) (fun _ h9 => h9) rfl (by decide +kernel) rfl rfl hl hdg kk
theorem K_RX4_42 : KV RX4 42 yX6_fault cX6_fault 1 (some .int) 0 := ⟨Tg_mem 528 (by decide +kernel) (by decide +kernel), Tg_mem 91 (by decide +kernel) (by decide +kernel), Tg_mem 684 (by decide +kernel) (by decide +kernel), Tg_mem 526 (by decide +kernel) (by decide +kernel), Tg_mem 527 (by decide +kernel) (by decide +kernel), by decide +kernel⟩
theorem dX4_read_0 : decode cX4_read 0 = .ok (.aload_n 1, 1) := by decide +kernel
theorem dX4_read_1 : decode cX4_read 1 = .ok (.bipush 40, 2) := by decide +kernel
theorem dX4_read_3 : decode cX4_read 3 = .ok (.invokevirtual 24, 3) := by decide +kernel
theorem dX4_read_6 : decode cX4_read 6 = .ok (.aload_n 0, 1) := by decide +kernel
theorem dX4_read_7 : decode cX4_read 7 = .ok (.iconst 0, 1) := by decide +kernel
theorem dX4_read_8 : decode cX4_read 8 = .ok (.putfield 30, 3) := by decide +kernel
theorem dX4_read_11 : decode cX4_read 11 = .ok (.aload_n 1, 1) := by decide +kernel
theorem dX4_read_12 : decode cX4_read 12 = .ok (.invokevirtual 34, 3) := by decide +kernel
theorem dX4_read_15 : decode cX4_read 15 = .ok (.ifCond .ne 24, 3) := by decide +kernel
theorem dX4_read_18 : decode cX4_read 18 = .ok (.aload_n 0, 1) := by decide +kernel
theorem dX4_read_19 : decode cX4_read 19 = .ok (.aload_n 1, 1) := by decide +kernel
theorem dX4_read_20 : decode cX4_read 20 = .ok (.iconst 0, 1) := by decide +kernel
theorem dX4_read_21 : decode cX4_read 21 = .ok (.invokevirtual 38, 3) := by decide +kernel
theorem dX4_read_24 : decode cX4_read 24 = .ok (.ifCond .eq 10, 3) := by decide +kernel
theorem dX4_read_27 : decode cX4_read 27 = .ok (.aload_n 1, 1) := by decide +kernel
theorem dX4_read_28 : decode cX4_read 28 = .ok (.invokevirtual 34, 3) := by decide +kernel
theorem dX4_read_31 : decode cX4_read 31 = .ok (.ifCond .ne 8, 3) := by decide +kernel
theorem dX4_read_34 : decode cX4_read 34 = .ok (.aload_n 1, 1) := by decide +kernel
theorem dX4_read_35 : decode cX4_read 35 = .ok (.invokevirtual 42, 3) := by decide +kernel
theorem dX4_read_38 : decode cX4_read 38 = .ok (.ireturn, 1) := by decide +kernel
theorem dX4_read_39 : decode cX4_read 39 = .ok (.aload_n 0, 1) := by decide +kernel
theorem dX4_read_40 : decode cX4_read 40 = .ok (.getfield 15, 3) := by decide +kernel
theorem dX4_read_43 : decode cX4_read 43 = .ok (.iconst 0, 1) := by decide +kernel
theorem dX4_read_44 : decode cX4_read 44 = .ok (.aload_n 0, 1) := by decide +kernel
theorem dX4_read_45 : decode cX4_read 45 = .ok (.getfield 11, 3) := by decide +kernel
theorem dX4_read_48 : decode cX4_read 48 = .ok (.iconst 0, 1) := by decide +kernel
theorem dX4_read_49 : decode cX4_read 49 = .ok (.bipush 40, 2) := by decide +kernel
theorem dX4_read_51 : decode cX4_read 51 = .ok (.invokestatic 46, 3) := by decide +kernel
theorem dX4_read_54 : decode cX4_read 54 = .ok (.aload_n 0, 1) := by decide +kernel
theorem dX4_read_55 : decode cX4_read 55 = .ok (.aload_n 0, 1) := by decide +kernel
theorem dX4_read_56 : decode cX4_read 56 = .ok (.getfield 30, 3) := by decide +kernel
theorem dX4_read_59 : decode cX4_read 59 = .ok (.putfield 52, 3) := by decide +kernel
theorem dX4_read_62 : decode cX4_read 62 = .ok (.iconst 0, 1) := by decide +kernel
theorem dX4_read_63 : decode cX4_read 63 = .ok (.ireturn, 1) := by decide +kernel
def WX4_read (E : ENV) (q0 : Nat) (q0_code : Nat) (q0_draft : Nat) (q0_stack : Nat) (q0_things : Nat) (q1 : Nat) (q1_signs : Nat) (i_length : Int32) (i_drafted : Int32) (a_draft : Nat → Int32) (a_code : Nat → Int32) (i_p1_length : Int32) (i_p1_place : Int32) (i_p1_limit : Int32) (a_p1_signs : Nat → Int32) : va_W := [(q0, .inr (4, [.ref q0_code, .ref q0_draft, .ref q0_stack, .ref q0_things, .int i_length, .int i_drafted])), (q0_draft, .inl (E.2.1, 40, .inl a_draft)), (q0_code, .inl (E.2.1, 40, .inl a_code)), (q1, .inr (6, [.ref q1_signs, .int i_p1_length, .int i_p1_place, .int i_p1_limit])), (q1_signs, .inl (E.2.1, 80, .inl a_p1_signs))]
set_option maxHeartbeats 4000000 in
set_option maxRecDepth 20000 in
theorem kX4_read (l : Launch) (E : ENV) (q0 : Nat) (q0_code : Nat) (q0_draft : Nat) (q0_stack : Nat) (q0_things : Nat) (q1 : Nat) (q1_signs : Nat) (i_length : Int32) (i_drafted : Int32) (a_draft : Nat → Int32) (a_code : Nat → Int32) (i_p1_length : Int32) (i_p1_place : Int32) (i_p1_limit : Int32) (a_p1_signs : Nat → Int32) (r9 : Int32) (i_length9 : Int32) (i_drafted9 : Int32) (a_draft9 : Nat → Int32) (a_code9 : Nat → Int32) (i_p1_place9 : Int32) (i_p1_limit9 : Int32) (hf : fX4_read i_length i_drafted a_draft a_code i_p1_length i_p1_place i_p1_limit a_p1_signs = some (r9, i_length9, i_drafted9, a_draft9, a_code9, i_p1_place9, i_p1_limit9)) : CI l E yX4_read cX4_read 2 (some .int) 35 [.ref q0, .ref q1] (WX4_read E q0 q0_code q0_draft q0_stack q0_things q1 q1_signs i_length i_drafted a_draft a_code i_p1_length i_p1_place i_p1_limit a_p1_signs) (WX4_read E q0 q0_code q0_draft q0_stack q0_things q1 q1_signs i_length9 i_drafted9 a_draft9 a_code9 i_p1_length i_p1_place9 i_p1_limit9 a_p1_signs) r9 := by
  refine begI (by decide +kernel) (Nat.le_of_ble_eq_true rfl) ?_
  intro p e s m args below meth c A Q C hA hret
  have hx := C.1
  have hb := C.2.1
  have J39 : ∀ (i_length : Int32) (i_drafted : Int32) (a_draft : Nat → Int32) (a_code : Nat → Int32) (i_p1_place : Int32) (i_p1_limit : Int32), fX4_read_J39 i_drafted a_draft a_code i_p1_place i_p1_limit = some (r9, i_length9, i_drafted9, a_draft9, a_code9, i_p1_place9, i_p1_limit9) → GO p l e 35 s m args below meth c Q E A 2 39 [] [(0, .ref q0)] (WX4_read E q0 q0_code q0_draft q0_stack q0_things q1 q1_signs i_length i_drafted a_draft a_code i_p1_length i_p1_place i_p1_limit a_p1_signs) := by
    intro i_length i_drafted a_draft a_code i_p1_place i_p1_limit hf H locs ls hl hP hD hS
    unfold fX4_read_J39 at hf
    refine lv_aload_n hx hb dX4_read_39 rfl (lv_at hl 0 rfl) ?_
    refine gf_RX4_15 C hP 0 rfl rfl dX4_read_40 ?_
    refine lv_iconst (v := 0) hx hb dX4_read_43 (by decide) ?_
    refine lv_aload_n hx hb dX4_read_44 rfl (lv_at hl 0 rfl) ?_
    refine gf_RX4_11 C hP 0 rfl rfl dX4_read_45 ?_
    refine lv_iconst (v := 0) hx hb dX4_read_48 (by decide) ?_
    refine lv_bipush (v := 40) hx hb dX4_read_49 (by decide) ?_
    refine r_cpy C q685 (Nat.le_of_ble_eq_true rfl) hl.1 (Nat.le_of_ble_eq_true rfl) hP hD hS 1 2 40 rfl rfl (by decide) (by decide) (Nat.le_of_ble_eq_true rfl) (Nat.le_of_ble_eq_true rfl) dX4_read_51 (fun H locs hP hD hS => ?_)
    have hP : va_P E.1 classes (WX4_read E q0 q0_code q0_draft q0_stack q0_things q1 q1_signs i_length i_drafted a_draft ((cpy 40 a_draft a_code)) i_p1_length i_p1_place i_p1_limit a_p1_signs) H := hP
    have hD : va_D A (WX4_read E q0 q0_code q0_draft q0_stack q0_things q1 q1_signs i_length i_drafted a_draft ((cpy 40 a_draft a_code)) i_p1_length i_p1_place i_p1_limit a_p1_signs) := hD
    refine lv_aload_n hx hb dX4_read_54 rfl (lv_at hl 0 rfl) ?_
    refine lv_aload_n hx hb dX4_read_55 rfl (lv_at hl 0 rfl) ?_
    refine gf_RX4_30 C hP 0 rfl rfl dX4_read_56 ?_
    refine pf_RX4_52 C hP hD hS 0 rfl (Nat.le_of_ble_eq_true rfl) dX4_read_59 (fun H locs hP hD hS => ?_)
    have hP : va_P E.1 classes (WX4_read E q0 q0_code q0_draft q0_stack q0_things q1 q1_signs i_drafted i_drafted a_draft ((cpy 40 a_draft a_code)) i_p1_length i_p1_place i_p1_limit a_p1_signs) H := hP
    have hD : va_D A (WX4_read E q0 q0_code q0_draft q0_stack q0_things q1 q1_signs i_drafted i_drafted a_draft ((cpy 40 a_draft a_code)) i_p1_length i_p1_place i_p1_limit a_p1_signs) := hD
    refine lv_iconst (v := 0) hx hb dX4_read_62 (by decide) ?_
    have hj0 := Option.some.inj hf
    obtain ⟨ha0, hj1⟩ := Prod.mk.inj hj0
    obtain ⟨ha1, hj2⟩ := Prod.mk.inj hj1
    obtain ⟨ha2, hj3⟩ := Prod.mk.inj hj2
    obtain ⟨ha3, hj4⟩ := Prod.mk.inj hj3
    obtain ⟨ha4, hj5⟩ := Prod.mk.inj hj4
    obtain ⟨ha5, hj6⟩ := Prod.mk.inj hj5
    subst ha0
    subst ha1
    subst ha2
    subst ha3
    subst ha4
    subst ha5
    subst hj6
    exact hret _ _ _ _ dX4_read_63 rfl hP hD hS
  intro H locs ls hl hP hD hS
  have hl : lv_has ls 2 [(0, .ref q0), (1, .ref q1)] := hl
  unfold fX4_read at hf
  refine lv_aload_n hx hb dX4_read_0 rfl (lv_at hl 1 rfl) ?_
  refine lv_bipush (v := 40) hx hb dX4_read_1 (by decide) ?_
  obtain ⟨o1, hg2, hf⟩ := bd_some hf
  refine k_VV (As := [.int 40]) C K_RX4_24 (Nat.le_of_ble_eq_true rfl) (Nat.le_of_ble_eq_true rfl) (kX6_open l E q1 q1_signs i_p1_length i_p1_place i_p1_limit 40 o1.1 o1.2 hg2) [3] rfl rfl rfl (ci := 6) rfl rfl (q0 := 0) rfl hP hD hS hA hl.1 (Nat.le_of_ble_eq_true rfl) rfl dX4_read_3 (fun H locs hP hD hS => ?_)
  have hP : va_P E.1 classes (WX4_read E q0 q0_code q0_draft q0_stack q0_things q1 q1_signs i_length i_drafted a_draft a_code i_p1_length o1.1 o1.2 a_p1_signs) H := hP
  have hD : va_D A (WX4_read E q0 q0_code q0_draft q0_stack q0_things q1 q1_signs i_length i_drafted a_draft a_code i_p1_length o1.1 o1.2 a_p1_signs) := hD
  refine lv_aload_n hx hb dX4_read_6 rfl (lv_at hl 0 rfl) ?_
  refine lv_iconst (v := 0) hx hb dX4_read_7 (by decide) ?_
  refine pf_RX4_30 C hP hD hS 0 rfl (Nat.le_of_ble_eq_true rfl) dX4_read_8 (fun H locs hP hD hS => ?_)
  have hP : va_P E.1 classes (WX4_read E q0 q0_code q0_draft q0_stack q0_things q1 q1_signs i_length 0 a_draft a_code i_p1_length o1.1 o1.2 a_p1_signs) H := hP
  have hD : va_D A (WX4_read E q0 q0_code q0_draft q0_stack q0_things q1 q1_signs i_length 0 a_draft a_code i_p1_length o1.1 o1.2 a_p1_signs) := hD
  refine lv_aload_n hx hb dX4_read_11 rfl (lv_at hl 1 rfl) ?_
  obtain ⟨o3, hg4, hf⟩ := bd_some hf
  refine k_VI (As := []) C K_RX4_34 (Nat.le_of_ble_eq_true rfl) (Nat.le_of_ble_eq_true rfl) (kX6_isThrough l E q1 q1_signs i_p1_length o1.1 o1.2 o3 hg4) [3] rfl rfl rfl (ci := 6) rfl rfl (q0 := 0) rfl hP hD hS hA hl.1 (Nat.le_of_ble_eq_true rfl) rfl dX4_read_12 (fun H locs hP hD hS => ?_)
  have hP : va_P E.1 classes (WX4_read E q0 q0_code q0_draft q0_stack q0_things q1 q1_signs i_length 0 a_draft a_code i_p1_length o1.1 o1.2 a_p1_signs) H := hP
  have hD : va_D A (WX4_read E q0 q0_code q0_draft q0_stack q0_things q1 q1_signs i_length 0 a_draft a_code i_p1_length o1.1 o1.2 a_p1_signs) := hD
  refine lv_if_ne (tgt := 39) hx hb dX4_read_15 (by decide) (fun c5 => ?_) (fun c5 => ?_)
  · rw [if_neg c5] at hf
    exact J39 i_length 0 a_draft a_code o1.1 o1.2 hf _ _ _ (lv_sub hl [0] rfl) hP hD hS
  · rw [if_pos c5] at hf
    refine lv_aload_n hx hb dX4_read_18 rfl (lv_at hl 0 rfl) ?_
    refine lv_aload_n hx hb dX4_read_19 rfl (lv_at hl 1 rfl) ?_
    refine lv_iconst (v := 0) hx hb dX4_read_20 (by decide) ?_
    obtain ⟨o6, hg7, hf⟩ := bd_some hf
    refine k_VI (As := [.ref q1, .int 0]) C K_RX4_38 (Nat.le_of_ble_eq_true rfl) (Nat.le_of_ble_eq_true rfl) (kX4_readComparison l E q0 q0_code q0_draft q0_stack q0_things q1 q1_signs i_length 0 a_draft i_p1_length o1.1 o1.2 a_p1_signs 0 o6.1 o6.2.1 o6.2.2.1 o6.2.2.2 hg7) [0, 1, 3, 4] rfl rfl rfl (ci := 4) rfl rfl (q0 := 0) rfl hP hD hS hA hl.1 (Nat.le_of_ble_eq_true rfl) rfl dX4_read_21 (fun H locs hP hD hS => ?_)
    have hP : va_P E.1 classes (WX4_read E q0 q0_code q0_draft q0_stack q0_things q1 q1_signs i_length o6.2.1 o6.2.2.1 a_code i_p1_length o6.2.2.2 o1.2 a_p1_signs) H := hP
    have hD : va_D A (WX4_read E q0 q0_code q0_draft q0_stack q0_things q1 q1_signs i_length o6.2.1 o6.2.2.1 a_code i_p1_length o6.2.2.2 o1.2 a_p1_signs) := hD
    refine lv_if_eq (tgt := 34) hx hb dX4_read_24 (by decide) (fun c8 => ?_) (fun c8 => ?_)
    · rw [if_pos c8] at hf
      refine lv_aload_n hx hb dX4_read_34 rfl (lv_at hl 1 rfl) ?_
      obtain ⟨o9, hg10, hf⟩ := bd_some hf
      refine k_VI (As := []) C K_RX4_42 (Nat.le_of_ble_eq_true rfl) (Nat.le_of_ble_eq_true rfl) (kX6_fault l E q1 q1_signs i_p1_length o6.2.2.2 o1.2 o9 hg10) [3] rfl rfl rfl (ci := 6) rfl rfl (q0 := 0) rfl hP hD hS hA hl.1 (Nat.le_of_ble_eq_true rfl) rfl dX4_read_35 (fun H locs hP hD hS => ?_)
      have hP : va_P E.1 classes (WX4_read E q0 q0_code q0_draft q0_stack q0_things q1 q1_signs i_length o6.2.1 o6.2.2.1 a_code i_p1_length o6.2.2.2 o1.2 a_p1_signs) H := hP
      have hD : va_D A (WX4_read E q0 q0_code q0_draft q0_stack q0_things q1 q1_signs i_length o6.2.1 o6.2.2.1 a_code i_p1_length o6.2.2.2 o1.2 a_p1_signs) := hD
      have hj0 := Option.some.inj hf
      obtain ⟨ha0, hj1⟩ := Prod.mk.inj hj0
      obtain ⟨ha1, hj2⟩ := Prod.mk.inj hj1
      obtain ⟨ha2, hj3⟩ := Prod.mk.inj hj2
      obtain ⟨ha3, hj4⟩ := Prod.mk.inj hj3
      obtain ⟨ha4, hj5⟩ := Prod.mk.inj hj4
      obtain ⟨ha5, hj6⟩ := Prod.mk.inj hj5
      subst ha0
      subst ha1
      subst ha2
      subst ha3
      subst ha4
      subst ha5
      subst hj6
      exact hret _ _ _ _ dX4_read_38 rfl hP hD hS
    · rw [if_neg c8] at hf
      refine lv_aload_n hx hb dX4_read_27 rfl (lv_at hl 1 rfl) ?_
      obtain ⟨o11, hg12, hf⟩ := bd_some hf
      refine k_VI (As := []) C K_RX4_34 (Nat.le_of_ble_eq_true rfl) (Nat.le_of_ble_eq_true rfl) (kX6_isThrough l E q1 q1_signs i_p1_length o6.2.2.2 o1.2 o11 hg12) [3] rfl rfl rfl (ci := 6) rfl rfl (q0 := 0) rfl hP hD hS hA hl.1 (Nat.le_of_ble_eq_true rfl) rfl dX4_read_28 (fun H locs hP hD hS => ?_)
      have hP : va_P E.1 classes (WX4_read E q0 q0_code q0_draft q0_stack q0_things q1 q1_signs i_length o6.2.1 o6.2.2.1 a_code i_p1_length o6.2.2.2 o1.2 a_p1_signs) H := hP
      have hD : va_D A (WX4_read E q0 q0_code q0_draft q0_stack q0_things q1 q1_signs i_length o6.2.1 o6.2.2.1 a_code i_p1_length o6.2.2.2 o1.2 a_p1_signs) := hD
      refine lv_if_ne (tgt := 39) hx hb dX4_read_31 (by decide) (fun c13 => ?_) (fun c13 => ?_)
      · rw [if_neg c13] at hf
        exact J39 i_length o6.2.1 o6.2.2.1 a_code o6.2.2.2 o1.2 hf _ _ _ (lv_sub hl [0] rfl) hP hD hS
      · rw [if_pos c13] at hf
        refine lv_aload_n hx hb dX4_read_34 rfl (lv_at hl 1 rfl) ?_
        obtain ⟨o14, hg15, hf⟩ := bd_some hf
        refine k_VI (As := []) C K_RX4_42 (Nat.le_of_ble_eq_true rfl) (Nat.le_of_ble_eq_true rfl) (kX6_fault l E q1 q1_signs i_p1_length o6.2.2.2 o1.2 o14 hg15) [3] rfl rfl rfl (ci := 6) rfl rfl (q0 := 0) rfl hP hD hS hA hl.1 (Nat.le_of_ble_eq_true rfl) rfl dX4_read_35 (fun H locs hP hD hS => ?_)
        have hP : va_P E.1 classes (WX4_read E q0 q0_code q0_draft q0_stack q0_things q1 q1_signs i_length o6.2.1 o6.2.2.1 a_code i_p1_length o6.2.2.2 o1.2 a_p1_signs) H := hP
        have hD : va_D A (WX4_read E q0 q0_code q0_draft q0_stack q0_things q1 q1_signs i_length o6.2.1 o6.2.2.1 a_code i_p1_length o6.2.2.2 o1.2 a_p1_signs) := hD
        have hj0 := Option.some.inj hf
        obtain ⟨ha0, hj1⟩ := Prod.mk.inj hj0
        obtain ⟨ha1, hj2⟩ := Prod.mk.inj hj1
        obtain ⟨ha2, hj3⟩ := Prod.mk.inj hj2
        obtain ⟨ha3, hj4⟩ := Prod.mk.inj hj3
        obtain ⟨ha4, hj5⟩ := Prod.mk.inj hj4
        obtain ⟨ha5, hj6⟩ := Prod.mk.inj hj5
        subst ha0
        subst ha1
        subst ha2
        subst ha3
        subst ha4
        subst ha5
        subst hj6
        exact hret _ _ _ _ dX4_read_38 rfl hP hD hS
