/-! the start: what the constructors lay -/
def sig0 : CS := (va_up (fun _ => 0) 33 1, va_up (fun _ _ => 0) 6 (upd (upd (fun _ => 0) 0 (-1)) 1 (-1)), fun _ _ => 0, fun _ _ _ => 0)
def tau0 : MS := (fun _ => 0, fun _ _ => 0, 0)
def en0 : EN := (0, fun _ => 1, fun _ => 0, wfn (fun _ => 0) 0, rv (fun T => iI (T 0)))
def g00 : GH := (en0, fun _ => 0, fun _ => 0, 0, fun _ _ => 0, 0, fun _ => 0, 0, [], fun _ => -1, fun _ _ => 0, fun _ => 0, 0, 0, fun _ => 0, fun _ => 0)
theorem arr0 (n : Int) : Arr n (fun _ => 0) (fun _ => 0) := fun _ _ _ => rfl
theorem arrE {a : Nat → Int32} {A : Int → Int} : Arr 0 a A := fun x x0 x1 => by exfalso; omega
theorem arrE2 {a : Nat → Int32} {A : Int → Int} : Arr (2 * 0) a A := fun x x0 x1 => by exfalso; omega
theorem en0_C : EnC en0 (iI 0) (iI 1) (iI 0) (fun _ => 0) (fun _ => 0) (fun _ => 0) (fun _ => 0) := ⟨rfl, arrE, arrE2, fun d d0 d1 => c_inch0 (W := fun _ => 0) rfl d0 d1, ruC_none⟩
theorem en0_M : EnM en0 (iI 0) (iI 0) (iI 0) (fun _ => 0) (fun _ => 0) (fun _ => 0) (fun _ => 0) := ⟨rfl, arrE, arrE2, fun d d0 d1 => m_wea0 (W := fun _ => 0) (d := d) _ _, ruM_none⟩
theorem wa0 : WA (fun _ => 0) := ⟨fun i _ _ => ⟨Int.le_refl 0, by show (0 : Int) ≤ 999; omega⟩, fun i _ _ => ⟨Int.le_refl 0, by show (0 : Int) ≤ 9999; omega⟩, Int.le_refl 0⟩
theorem zb0 : ZB 0 (fun _ => 0) := ⟨fun i _ _ => rfl, fun i _ _ => rfl, fun i j _ _ _ _ _ => rfl⟩
theorem en0_G : EnG en0 := by
  refine ⟨⟨Int.le_refl 0, ?_⟩, fun i i0 i1 => ?_, fun s s0 s1 => ?_, fun d => ?_, fun a b c d e f g h => rv_b (fun T => iI (T 0)) a b c d e f g h⟩
  · show (0 : Int) ≤ 7; omega
  · have h : i < 0 := i1
    exfalso; omega
  · have h : s < 2 * 0 := s1
    exfalso; omega
  · show -9 ≤ wfn (fun _ => 0) 0 d ∧ wfn (fun _ => 0) 0 d ≤ 9
    unfold wfn
    split <;> omega
theorem hs0_C {hn : Nat → Int32} {Hs Hp Hd : Nat → Nat → Int32} : HsC (fun _ _ => 0) 0 (iI 0) (iI 0) hn Hs Hp Hd := by
  refine ⟨Int.le_refl 0, by omega, rfl, 0, by omega, by omega, rfl, fun j j0 j1 => ?_⟩
  exfalso; omega
theorem hs0_M {un : Nat → Int32} : HsM (fun _ _ => 0) 0 (iI 0) un := by
  refine ⟨Int.le_refl 0, by omega, rfl, fun j i j0 j1 => ?_⟩
  exfalso; omega
theorem kh0 : Arr 2 (upd (upd (fun _ => 0) 0 (-1)) 1 (-1)) (fun _ => -1) := fun x x0 x1 => by
  rcases (show x = 0 ∨ x = 1 by omega) with rfl | rfl <;> rfl
theorem rcc0 : RC g00 sig0 := ⟨en0_C, arrE, ⟨rfl, arr0 _, arr0 _, arr0 _⟩, rfl, hs0_C, ⟨arr0 _, rfl⟩, Rw.nil _, ⟨kh0, fun i i0 i1 h => absurd rfl h⟩, rfl, arrE, arrE⟩
theorem rmm0 : RM g00 tau0 := ⟨en0_M, arrE, arr0 _, rfl, hs0_M, ⟨fun x _ _ => rfl, rfl⟩, Rw.nil _, ⟨fun x x0 x1 => rfl, arr0 _, rfl, fun i j i0 i1 h => absurd rfl h⟩, rfl, fun k k0 k1 => by
  have h : k < 0 := k1
  exfalso; omega⟩
theorem rgg0 : RG 0 g00 := by
  refine ⟨en0_G, fun i i0 i1 => ?_, ⟨wa0, zb0, ?_⟩, ⟨Int.le_refl 0, ?_⟩, fun j j0 j1 => ?_, ⟨Int.le_refl 0, ?_, fun i => ⟨Int.le_refl 0, ?_⟩⟩, Nat.zero_le _, ⟨fun i i0 i1 => Or.inl rfl, Int.le_refl 0, Int.le_refl 0⟩, Int.le_refl 0, ?_, fun k k0 k1 => ?_⟩
  · have h : i < 0 := i1
    exfalso; omega
  · show (0 : Int) ≤ 300 * 0; omega
  · show (0 : Int) ≤ 40; omega
  · have h : j < 0 := j1
    exfalso; omega
  · show (0 : Int) ≤ 80; omega
  · show (0 : Int) ≤ 255; omega
  · show (0 : Int) ≤ 20; omega
  · have h : k < 0 := k1
    exfalso; omega
theorem R_start : R 0 sig0 tau0 := ⟨by omega, g00, rcc0, rmm0, rgg0⟩
