theorem isN_ot : ∀ {w : Cond}, isN w = true → w.onTables = true := by
  intro w h
  cases w <;> first | rfl | (simp [isN] at h; done)
theorem XL_ok : XL.all (fun w => decide (w ∈ lw_tbl) && w.onTables) = true := by decide +kernel
theorem arr_known {args : Array Value} {s : State} {ty : FieldType} (h : (Cond.arrayClass ty).before args s = true) : ∃ cA : ClassId, ArrOfT s cA ty ∧ s.vm.findClass ("[" ++ ty.toString) = some cA := by
  obtain ⟨cA, kA, comp, h1, h2, h3⟩ := Cond.arrayClass_spec h
  exact ⟨cA, fun n z => ⟨fun k h => (by cases h), kA, h2, comp, h3⟩, h1⟩
theorem arr_over {args : Array Value} {s : State} {C : String} (h : (Cond.arrayOver (.object C)).before args s = true) : ∃ cA : ClassId, ArrOfT s cA (.object C) ∧ va_RA s cA (.object C) := by
  obtain ⟨comp, cA, kA, h1, -, h2, h3, h4⟩ := Cond.arrayOver_spec h
  exact ⟨cA, fun n z => ⟨fun k h => (by cases h), kA, h2, comp, h3⟩, kA, comp, h2, h3, h1, h4⟩
/-- what the law stands on, from what the Statement gives at its entry -/
theorem law_env {p : Program} {s : State} {m : MethodId} {meth : Method} {c : Code} {b L : Nat} {xs : Nat → Int32} (C0 : lw_At p s m meth c b L xs) : ∃ E : ENV, CxL E (fun q => s.heap.size ≤ q) p s m #[Value.ref b] c := by
  obtain ⟨hx, hb, hr, hml, hown, hts, hX, hbl, hlocks, hgv⟩ := C0
  have htg : ∀ w ∈ Tg, w.before #[Value.ref b] s = true := fun w h => hts w (List.mem_filter.mp h).1
  have hg := flat_of_before _ hgv
  have hA0 : ∀ a : Nat, a < s.heap.size → ¬ (fun q : Nat => s.heap.size ≤ q) a := fun a h => Nat.not_le.mpr h
  obtain ⟨c0, s0, k0⟩ := u_known (C := RX0) (T := TX0) (N := 4) (n := 4) htg inT0 (hts (.instantiable RX0 4) (List.mem_of_getElem? (i := 215) (by decide +kernel)))
  obtain ⟨c1, s1, k1⟩ := u_known (C := RX1) (T := TX1) (N := 7) (n := 7) htg inT1 (hts (.instantiable RX1 7) (List.mem_of_getElem? (i := 309) (by decide +kernel)))
  obtain ⟨c2, s2, k2⟩ := u_known (C := RX2) (T := TX2) (N := 3) (n := 3) htg inT2 (hts (.instantiable RX2 3) (List.mem_of_getElem? (i := 344) (by decide +kernel)))
  obtain ⟨c3, s3, k3⟩ := u_known (C := RX3) (T := TX3) (N := 4) (n := 4) htg inT3 (hts (.instantiable RX3 4) (List.mem_of_getElem? (i := 364) (by decide +kernel)))
  obtain ⟨c4, s4, k4⟩ := u_known (C := RX4) (T := TX4) (N := 6) (n := 6) htg inT4 (hts (.instantiable RX4 6) (List.mem_of_getElem? (i := 189) (by decide +kernel)))
  obtain ⟨c5, s5, k5⟩ := u_known (C := RX5) (T := TX5) (N := 4) (n := 4) htg inT5 (hts (.instantiable RX5 4) (List.mem_of_getElem? (i := 244) (by decide +kernel)))
  obtain ⟨c6, s6, k6⟩ := u_known (C := RX6) (T := TX6) (N := 4) (n := 4) htg inT6 (hts (.instantiable RX6 4) (List.mem_of_getElem? (i := 125) (by decide +kernel)))
  obtain ⟨c7, s7, k7⟩ := u_known (C := RX7) (T := TX7) (N := 4) (n := 4) htg inT7 (hts (.instantiable RX7 4) (List.mem_of_getElem? (i := 146) (by decide +kernel)))
  obtain ⟨c8, s8, k8⟩ := u_known (C := RX8) (T := TX8) (N := 4) (n := 4) htg inT8 (hts (.instantiable RX8 4) (List.mem_of_getElem? (i := 386) (by decide +kernel)))
  obtain ⟨c9, s9, k9⟩ := u_known (C := RX9) (T := TX9) (N := 9) (n := 9) htg inT9 (hts (.instantiable RX9 9) (List.mem_of_getElem? (i := 238) (by decide +kernel)))
  obtain ⟨c10, s10, k10⟩ := u_known (C := RX10) (T := TX10) (N := 3) (n := 3) htg inT10 (hts (.instantiable RX10 3) (List.mem_of_getElem? (i := 172) (by decide +kernel)))
  obtain ⟨c11, s11, k11⟩ := u_known (C := RX11) (T := TX11) (N := 18) (n := 18) htg inT11 (hts (.instantiable RX11 18) (List.mem_of_getElem? (i := 117) (by decide +kernel)))
  obtain ⟨c12, s12, k12⟩ := u_known (C := RX12) (T := TX12) (N := 52) (n := 52) htg inT12 (hts (.instantiable RX12 52) (List.mem_of_getElem? (i := 1321) (by decide +kernel)))
  obtain ⟨dC, dI, hKc⟩ : ∃ (dC : Nat → ClassId) (dI : Nat → Nat → Nat), ∀ (k : Nat) (q : vw_C), classes[k]? = some q → u_Kn s q.1 q.2.1 q.2.2 (dC k) (dI k) := by
    refine ⟨fun k => if k = 0 then c0 else if k = 1 then c1 else if k = 2 then c2 else if k = 3 then c3 else if k = 4 then c4 else if k = 5 then c5 else if k = 6 then c6 else if k = 7 then c7 else if k = 8 then c8 else if k = 9 then c9 else if k = 10 then c10 else if k = 11 then c11 else c12, fun k => if k = 0 then s0 else if k = 1 then s1 else if k = 2 then s2 else if k = 3 then s3 else if k = 4 then s4 else if k = 5 then s5 else if k = 6 then s6 else if k = 7 then s7 else if k = 8 then s8 else if k = 9 then s9 else if k = 10 then s10 else if k = 11 then s11 else s12, ?_⟩
    intro k q hq
    match k, hq with
    | 0, hq => cases hq; exact k0
    | 1, hq => cases hq; exact k1
    | 2, hq => cases hq; exact k2
    | 3, hq => cases hq; exact k3
    | 4, hq => cases hq; exact k4
    | 5, hq => cases hq; exact k5
    | 6, hq => cases hq; exact k6
    | 7, hq => cases hq; exact k7
    | 8, hq => cases hq; exact k8
    | 9, hq => cases hq; exact k9
    | 10, hq => cases hq; exact k10
    | 11, hq => cases hq; exact k11
    | 12, hq => cases hq; exact k12
    | k + 13, hq => simp [classes] at hq
  obtain ⟨aI, hI1, hI2⟩ := arr_known (hts (.arrayClass .int) (List.mem_of_getElem? (i := 144) (by decide +kernel)))
  obtain ⟨aB, hB1, hB2⟩ := arr_known (hts (.arrayClass .byte) (List.mem_of_getElem? (i := 688) (by decide +kernel)))
  obtain ⟨aZ, hZ1, hZ2⟩ := arr_known (hts (.arrayClass .boolean) (List.mem_of_getElem? (i := 1483) (by decide +kernel)))
  obtain ⟨aJ, hJ1, hJ2⟩ := arr_known (hts (.arrayClass .long) (List.mem_of_getElem? (i := 1936) (by decide +kernel)))
  have oS := hts (.arrayOver (.object "SnowForSummer$State")) (List.mem_of_getElem? (i := 350) (by decide +kernel))
  have oW := hts (.arrayOver (.object "SnowForSummer$Walk")) (List.mem_of_getElem? (i := 315) (by decide +kernel))
  obtain ⟨aT, hT1, hT2⟩ := arr_over oS
  obtain ⟨aW, hW1, hW2⟩ := arr_over oW
  obtain ⟨adK, adV, hSt, hEv⟩ := vk_Sof (args := #[Value.ref b]) (s := s) (N := 1) (tm := fun _ => .string RX4 84) (len := [8]) (byt := [strB]) (A := fun q : Nat => s.heap.size ≤ q)
    (fun i hi => by rw [show i = 0 by omega]; exact Nat.lt_of_sub_pos (by decide)) (fun i hi => hg _ (by decide +kernel)) (fun i hi => hg _ (by decide +kernel)) (fun i hi => hg _ (by decide +kernel)) (fun i hi => by rw [show i = 0 by omega]; exact hg _ (by decide +kernel))
    (fun i hi j hj => by
      rw [show i = 0 by omega] at hj ⊢
      have hj8 : j < 8 := hj
      rcases (show j = 0 ∨ j = 1 ∨ j = 2 ∨ j = 3 ∨ j = 4 ∨ j = 5 ∨ j = 6 ∨ j = 7 by omega) with rfl | rfl | rfl | rfl | rfl | rfl | rfl | rfl <;> exact hg _ (by decide +kernel))
    (fun i j hi hj hij => absurd (show i = j by omega) hij) hA0
  have hEv0 : (Term.string RX4 84).eval #[Value.ref b] s none [] s = some (.ref (adK 0)) := hEv 0 (by omega)
  refine ⟨((dC, dI), aI, aB, aZ, aT, aW, aJ, adK 0, adV 0), hx, hb, hml, hown, htg, ⟨hKc, ?_⟩, ?_, ?_, ?_, va_AO.of oS, va_AO.of oW⟩
  · intro k q hq
    match k, hq with
    | 0, hq => cases hq; exact ⟨hI1, hI2⟩
    | 1, hq => cases hq; exact ⟨hB1, hB2⟩
    | 2, hq => cases hq; exact ⟨hZ1, hZ2⟩
    | 3, hq => cases hq; exact ⟨hT1, hT2⟩
    | 4, hq => cases hq; exact ⟨hW1, hW2⟩
    | 5, hq => cases hq; exact ⟨hJ1, hJ2⟩
    | k + 6, hq => simp [tyl] at hq
  · intro w hw
    have h2 := List.mem_filter.mp hw
    exact va_Nw.of (isN_ot h2.2) (hts w h2.1)
  · refine ⟨vk_R.of (hts (.stringRef RX4 84 "dptonxhb") (List.mem_of_getElem? (i := 601) (by decide +kernel))) hEv0, ?_, va_Zof (hts (.laysStatic "java/lang/String" "COMPACT_STRINGS" "Z") (List.mem_of_getElem? (i := 615) (by decide +kernel))) (hts (.initialized "java/lang/String") (List.mem_of_getElem? (i := 104) (by decide +kernel))) (va_eqi (hg _ (by decide +kernel))) hA0⟩
    refine ⟨fun i hi => ?_, fun i j hi hj _ => by omega⟩
    have := hSt.1 i hi
    rw [show i = 0 by omega] at this ⊢
    exact this
  · refine ⟨fun w hw => ?_, vx_Zqof (hts (.laysStatic "java/lang/Throwable" "UNASSIGNED_STACK" "[Ljava/lang/StackTraceElement;") (List.mem_of_getElem? (i := 1258) (by decide +kernel))) (hts (.initialized "java/lang/Throwable") (List.mem_of_getElem? (i := 110) (by decide +kernel))) (hg _ (by decide +kernel)) hA0, vx_Zqof (hts (.laysStatic "java/lang/Throwable" "SUPPRESSED_SENTINEL" "Ljava/util/List;") (List.mem_of_getElem? (i := 1260) (by decide +kernel))) (hts (.initialized "java/lang/Throwable") (List.mem_of_getElem? (i := 110) (by decide +kernel))) (hg _ (by decide +kernel)) hA0⟩
    have h1 := List.all_eq_true.1 XL_ok w hw
    rw [Bool.and_eq_true] at h1
    exact va_Nw.of h1.2 (hts w (of_decide_eq_true h1.1))
