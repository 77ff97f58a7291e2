def strB : List Int32 := [100, 112, 116, 111, 110, 120, 104, 98]
def vin (i : Int32) (n : Nat) : Bool := decide (¬ i < 0) && decide (i.toNatClampNeg < n)
theorem vin_in {i : Int32} {n : Nat} (h : vin i n = true) : vp_in i n := by
  simp only [vin, Bool.and_eq_true, decide_eq_true_eq] at h
  rintro (q | q)
  · exact h.1 q
  · omega
def gd {α : Type} (b : Bool) (k : Option α) : Option α := if b = true then k else none
theorem gd_some {α : Type} {b : Bool} {k : Option α} {x : α} (h : gd b k = some x) : b = true ∧ k = some x := by
  unfold gd at h
  by_cases hb : b = true
  · rw [if_pos hb] at h; exact ⟨hb, h⟩
  · rw [if_neg hb] at h; cases h
theorem bd_some {α β : Type} {x : Option α} {f : α → Option β} {y : β} (h : x.bind f = some y) : ∃ o, x = some o ∧ f o = some y := by
  cases x with
  | none => cases h
  | some o => exact ⟨o, rfl, h⟩
def nz (y : Int32) : Bool := decide (¬ y = 0)
theorem nz_ne {y : Int32} (h : nz y = true) : ¬ y = 0 := by simpa [nz] using h
def FU : Nat := 4000
def mn (x y : Int32) : Int32 := if y < x then y else x
def mx (x y : Int32) : Int32 := if x < y then y else x
def ush (x y : Int32) : Int32 := (x.toUInt32 >>> (y.toUInt32 &&& Int32.toUInt32 31)).toInt32
def rem (x y : Int32) : Int32 := x - x / y * y
def isb (x : Int32) : Bool := decide (x = 0) || decide (x = 1)
theorem isb_n {x : Int32} (h : isb x = true) : narrow .boolean (.int x) = .int x := by
  simp only [isb, Bool.or_eq_true, decide_eq_true_eq] at h
  rcases h with rfl | rfl <;> rfl
/-- the first n of f, then g -/
def cpy (n : Nat) (f g : Nat → Int32) : Nat → Int32 := fun k => if k < n then f k else g k
theorem cpy_eq (n : Nat) (f g : Nat → Int32) : va_cpy f g 0 0 n = cpy n f g := by
  funext k
  simp [va_cpy, cpy]
theorem toInt_ne {x k : Int32} (h : ¬ x = k) : ¬ x.toInt = k.toInt := fun e => h (Int32.toInt_inj.mp e)
