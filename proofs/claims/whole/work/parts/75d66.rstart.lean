/-! the start: what the constructors lay -/
def sig0 : CS := (va_up (fun _ => 0) 33 1, va_up (fun _ _ => 0) 6 (upd (upd (fun _ => 0) 0 (-1)) 1 (-1)), fun _ _ => 0, fun _ _ _ => 0)
def tau0 : MS := (fun _ => 0, fun _ _ => 0, 0)
def en0 : EN := (0, fun _ => 1, fun _ => 0, wfn (fun _ => 0) 0, rv (fun T => iI (T 0)))
def g00 : GH := (en0, fun _ => 0, fun _ => 0, 0, fun _ _ => 0, 0, fun _ => 0, 0, [], fun _ => -1, fun _ _ => 0, fun _ => 0, 0, 0, fun _ => 0, fun _ => 0)
theorem arr0 (n : Int) : Arr n (fun _ => 0) (fun _ => 0) := fun _ _ _ => rfl
theorem R_start : R 0 sig0 tau0 := by
  refine ⟨by omega, g00, ?_, ?_, ?_⟩
  · refine ⟨⟨rfl, fun x x0 x1 => absurd x1 (by show ¬ x < 0; omega), fun x x0 x1 => absurd x1 (by show ¬ x < 2 * 0; omega), fun d d0 d1 => c_inch0 rfl d0 d1, ruC_none⟩, arr0 _, ⟨rfl, arr0 _, arr0 _, arr0 _⟩, rfl, ⟨Int.le_refl 0, by show (0 : Int) ≤ 12; omega, rfl, 0, by omega, by omega, rfl, fun j j0 j1 => absurd j1 (by show ¬ j < 0; omega)⟩, ⟨arr0 _, rfl⟩, Rw.nil _, ⟨fun x x0 x1 => ?_, fun i i0 i1 h => absurd rfl h⟩, rfl, fun x x0 x1 => absurd x1 (by show ¬ x < 0; omega), fun x x0 x1 => absurd x1 (by show ¬ x < 0; omega)⟩
    rcases (show x = 0 ∨ x = 1 by omega) with rfl | rfl <;> rfl
  · refine ⟨⟨rfl, fun x x0 x1 => absurd x1 (by show ¬ x < 0; omega), fun x x0 x1 => absurd x1 (by show ¬ x < 2 * 0; omega), fun d d0 d1 => m_wea0 _ _, ruM_none⟩, arr0 _, arr0 _, rfl, ⟨Int.le_refl 0, by show (0 : Int) ≤ 12; omega, rfl, fun j i j0 j1 => absurd j1 (by show ¬ j < 0; omega)⟩, ⟨fun x _ _ => rfl, rfl⟩, Rw.nil _, ⟨fun x x0 x1 => rfl, arr0 _, rfl, fun i j i0 i1 h => absurd rfl h⟩, rfl, fun k k0 k1 => absurd k1 (by show ¬ k < 0; omega)⟩
  · have w0 : WA (fun _ => 0) := ⟨fun i _ _ => by omega, fun i _ _ => by omega, Int.le_refl 0⟩
    have z0 : ZB 0 (fun _ => 0) := ⟨fun i _ _ => rfl, fun i _ _ => rfl, fun i j _ _ _ _ _ => rfl⟩
    refine ⟨⟨⟨Int.le_refl 0, by show (0 : Int) ≤ 7; omega⟩, fun i i0 i1 => absurd i1 (by show ¬ i < 0; omega), fun s s0 s1 => absurd s1 (by show ¬ s < 2 * 0; omega), fun d => ?_, rv_b _⟩, fun i i0 i1 => absurd i1 (by show ¬ i < 0; omega), ⟨w0, z0, by show (0 : Int) ≤ 300 * 0; omega⟩, ⟨Int.le_refl 0, by show (0 : Int) ≤ 40; omega⟩, fun j j0 j1 => absurd j1 (by show ¬ j < 0; omega), ⟨Int.le_refl 0, by show (0 : Int) ≤ 80; omega, fun i => ⟨Int.le_refl 0, by show (0 : Int) ≤ 255; omega⟩⟩, Nat.zero_le _, ⟨fun i i0 i1 => Or.inl rfl, Int.le_refl 0, Int.le_refl 0⟩, Int.le_refl 0, by show (0 : Int) ≤ 20; omega, fun k k0 k1 => absurd k1 (by show ¬ k < 0; omega)⟩
    show -9 ≤ wfn (fun _ => 0) 0 d ∧ wfn (fun _ => 0) 0 d ≤ 9
    unfold wfn
    split <;> omega
