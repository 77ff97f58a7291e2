/-! the constant text: its object lies outside every world -/
section RS
variable {p : Program} {l : Launch} {e : Env} {R : Room} {s : State} {m : MethodId} {args : Array Value} {below : List Frame} {meth : Method} {c : Code} {H : Heap} {locs : List Loc} {cells slots : Nat} {Q : State → Prop} {E : ENV} {y : MethodName} {cc : ByteArray} {n : Nat} {r : Option FieldType} {pc : Nat} {ls : Array Slot} {rest : List Value} {A : Nat → Prop} {idx : Nat}
theorem rs_val (C : Cx E A y cc n r p s m args meth c) (hS : va_S A s.heap H locs) (hq : Cond.fieldLink y.cls idx "java/lang/String" "value" "[B" ∈ Tg) (hdg : decode cc pc = .ok (.getfield idx, 3))
    (kk : W p l e R s m args below meth c H locs cells slots Q (F0 m (pc + 3) ls (.ref (aV E) :: rest))) : W p l e R s m args below meth c H locs cells slots Q (F0 m pc ls (.ref (aS E) :: rest)) :=
  vk_getf C.1 C.2.1 (C.2.2.2.2.2.2.2.2.2.2.1.1 0 (by decide)).2.2.1 hS C.2.2.2.1 (C.2.2.2.2.1 _ (List.mem_cons_of_mem _ hq)) (fun _ h9 => h9) hdg kk
theorem rs_cod (C : Cx E A y cc n r p s m args meth c) (hS : va_S A s.heap H locs) (hq : Cond.fieldLink y.cls idx "java/lang/String" "coder" "B" ∈ Tg) (hdg : decode cc pc = .ok (.getfield idx, 3))
    (kk : W p l e R s m args below meth c H locs cells slots Q (F0 m (pc + 3) ls (.int 0 :: rest))) : W p l e R s m args below meth c H locs cells slots Q (F0 m pc ls (.ref (aS E) :: rest)) :=
  vk_getf C.1 C.2.1 (C.2.2.2.2.2.2.2.2.2.2.1.1 0 (by decide)).2.1 hS C.2.2.2.1 (C.2.2.2.2.1 _ (List.mem_cons_of_mem _ hq)) (fun _ h9 => h9) hdg kk
theorem rs_st (C : Cx E A y cc n r p s m args meth c) (hS : va_S A s.heap H locs) (hq : Cond.fieldLink y.cls idx "java/lang/String" "COMPACT_STRINGS" "Z" ∈ Tg) (hdg : decode cc pc = .ok (.getstatic idx, 3))
    (kk : W p l e R s m args below meth c H locs cells slots Q (F0 m (pc + 3) ls (.int 1 :: rest))) : W p l e R s m args below meth c H locs cells slots Q (F0 m pc ls rest) :=
  va_gets C.1 C.2.1 C.2.2.2.2.2.2.2.2.2.2.2 hS C.2.2.2.1 (C.2.2.2.2.1 _ (List.mem_cons_of_mem _ hq)) (fun _ h9 => h9) hdg kk
theorem rs_len (C : Cx E A y cc n r p s m args meth c) (hS : va_S A s.heap H locs) (hdg : decode cc pc = .ok (.arraylength, 1))
    (kk : W p l e R s m args below meth c H locs cells slots Q (F0 m (pc + 1) ls (.int 8 :: rest))) : W p l e R s m args below meth c H locs cells slots Q (F0 m pc ls (.ref (aV E) :: rest)) :=
  va_tlen C.1 C.2.1 (C.2.2.2.2.2.2.2.2.2.2.1.1 0 (by decide)).2.2.2 hS (v := 8) (by decide) hdg kk
theorem rs_bal (C : Cx E A y cc n r p s m args meth c) (hS : va_S A s.heap H locs) {i : Int32} (hin : vp_in i 8) (hdg : decode cc pc = .ok (.baload, 1))
    (kk : W p l e R s m args below meth c H locs cells slots Q (F0 m (pc + 1) ls (.int (strB.getD i.toNatClampNeg 0) :: rest))) : W p l e R s m args below meth c H locs cells slots Q (F0 m pc ls (.int i :: .ref (aV E) :: rest)) :=
  va_tb C.1 C.2.1 (C.2.2.2.2.2.2.2.2.2.2.1.1 0 (by decide)).2.2.2 hS hin rfl hdg kk
theorem rs_ldc {nm ds : String} (C : Cx E A ⟨RX4, nm, ds⟩ cc n r p s m args meth c) (hdg : decode cc pc = .ok (.ldc 84, 2))
    (kk : W p l e R s m args below meth c H locs cells slots Q (F0 m (pc + 2) ls (.ref (aS E) :: rest))) : W p l e R s m args below meth c H locs cells slots Q (F0 m pc ls rest) :=
  va_ldcS C.1 C.2.1 C.2.2.2.1 C.2.2.2.2.2.2.2.2.2.1 hdg kk
end RS
section CS
variable {p : Program} {l : Launch} {e : Env} {s : State} {m : MethodId} {args : Array Value} {below : List Frame} {meth : Method} {c : Code} {H : Heap} {locs : List Loc} {Q : State → Prop} {d : Nat}
variable {E : ENV} {y : MethodName} {cc : ByteArray} {n : Nat} {r : Option FieldType} {pc : Nat} {ls : Array Slot} {rest : List Value} {A : Nat → Prop} {ws : va_W} {idx : Nat}
variable {y1 : MethodName} {cc1 : ByteArray} {n1 : Nat} {r1 : Option FieldType} {d1 : Nat} {As : List Value} {rv : Int32}
theorem k_VIS (C : Cx E A y cc n r p s m args meth c) (hy1 : y1.cls = "java/lang/String") (K : KV y.cls idx y1 cc1 n1 r1 As.length) (hd : d1 < d) (hn1 : n1 ≤ 41) (hc : CI l E y1 cc1 n1 r1 d1 (.ref (aS E) :: As) [] [] rv)
    (hP : va_P E.1 classes ws H) (hD : va_D A ws) (hS : va_S A s.heap H locs) (hA : ∀ q, s.heap.size ≤ q → A q) (hls : ls.size = n) (hst : (rest.map fun v => v.category).sum ≤ 8) {st0 : List Value} (hst0 : st0 = As.reverse ++ .ref (aS E) :: rest) (hdg : decode cc pc = .ok (.invokevirtual idx, 3))
    (kk : ∀ (H1 : Heap) (locs1 : List Loc), va_P E.1 classes ws H1 → va_D A ws → va_S A s.heap H1 locs1 → W p l e (rmd d) s m args below meth c H1 locs1 0 0 Q (F0 m (pc + 3) ls (.int rv :: rest))) :
    W p l e (rmd d) s m args below meth c H locs 0 0 Q (F0 m pc ls st0) := by
  subst hst0
  obtain ⟨hx, hb, hml, hown, hts, hK, hr, hlk, hN, hO⟩ := C
  obtain ⟨k1, k2, k3, k4, k5, k6⟩ := K
  have tg : ∀ w ∈ Tg, w.before args s = true := fun w h => hts w (List.mem_cons_of_mem _ h)
  have hDc := hD.sub (ws' := []) [] rfl rfl
  have hPc : va_P E.1 classes [] H := fun k q h => by simp at h
  have hFc := va_free (wc := []) hD hS hA [] rfl
  have cw : CallW (rmd d) s args y.cls y1.cls idx y1 cc1 n1 r1 (wl y1 cc1 n1 r1) (rmd d1) 0 0 As.length :=
    ⟨callB_of As.length hts (wl_good k1) rfl rfl rfl (tg _ k2) (tg _ k3) k6 (rm_ok hd hn1), tg _ k4, tg _ k5⟩
  refine va_calli (va_runV (As := As) (rest := rest) (Pc := Pr E (.ref (aS E) :: As) [] H.size) ⟨hx, hb, hml, hown, hts⟩ (hc H.size) cw ⟨Pr.blind, by rw [hy1]; exact vk_recv hO.2.1 (i := 0) (by decide) hS, fun U hU hW => ⟨rfl, by rw [hU], ⟨hN.warm hW, by rw [hU]; exact hO.go hS.2.1 hFc hW⟩, by rw [hU]; exact hPc, va_K.moved hW.alike hK, hDc.weaken (fun _ _ _ _ => trivial)⟩⟩ rfl rfl hls rfl (lv_room hst) hdg ⟨Nat.zero_le _, Nat.zero_le _⟩) hS (fun q _ h => hFc q h) hFc (fun r_2 u t H1 locs ht hvm hw hB hz1 hk1 hS => ?_)
  obtain ⟨hP1, hK1, hD1⟩ := hB
  rw [ht] at hP1
  subst hw
  obtain ⟨hP, hD⟩ := putC_join hP hD [] rfl rfl rfl hk1 hFc hP1 hD1
  exact kk H1 locs hP hD hS
end CS
