/-! the best sweeping: what is looked for -/
abbrev BE : Type := Int × List Int
def cst (hs : Int) (t : WS) : Int := if hs = -1 then t.2.1 else t.2.2 hs
abbrev cho (hs : Int) (t : WS) (s : Int) : Prop := s = 14 ∨ (0 < t.1 s ∧ (hs = -1 ∨ s / 2 = hs))
def swp (h s : Int) (t : WS) : WS := if s = 14 then t else (swA t.1 s (min h (t.1 s)), t.2)
def pst (E : EN) (h s : Int) (t : WS) : WS := dy E (swp h s t)
def bF (g : Int → BE → BE) : Nat → Int → BE → BE
  | 0, _, b => b
  | m + 1, s, b => bF g m (s + 1) (g s b)
def bM (E : EN) (h hs : Int) : Nat → WS → List Int → BE → BE
  | 0, t, p, b => if cst hs t < b.1 then (cst hs t, p) else b
  | k + 1, t, p, b => bF (fun s b => if cho hs t s then bM E h hs k (pst E h s t) (p ++ [s]) b else b) 15 0 b
/-- a state on the way -/
def GT (E : EN) (t : WS) : Prop := WA t.1 ∧ ZB E.1 t.1
theorem cho_s {E : EN} {hs : Int} {t : WS} (g : GT E t) {s : Int} (s0 : 0 ≤ s) (s1 : s ≤ 14) (hc : cho hs t s) (h14 : s ≠ 14) : s < 2 * E.1 := by
  rcases hc with h | ⟨h, -⟩
  · exact absurd h h14
  · by_cases q : s < 2 * E.1
    · exact q
    · have := g.2.1 s (by omega) (by omega)
      omega
theorem swp_ok {E : EN} (G : EnG E) {hs h : Int} (h1 : 1 ≤ h) {t : WS} (g : GT E t) {s : Int} (s0 : 0 ≤ s) (s1 : s ≤ 14) (hc : cho hs t s) : GT E (swp h s t) ∧ (swp h s t).1 70 = t.1 70 ∧ (swp h s t).2 = t.2 := by
  unfold swp
  by_cases q : s = 14
  · rw [if_pos q]
    exact ⟨g, rfl, rfl⟩
  · rw [if_neg q]
    have b := cho_s g s0 s1 hc q
    have a := g.1.1 s s0 (by omega)
    exact ⟨⟨wa_sw g.1 s0 (by omega) (by omega) (by omega), zb_sw G.1.2 g.2 s0 b⟩, sw_hi s0 (by omega) (by omega), rfl⟩
theorem pst_ok {E : EN} (G : EnG E) {hs h : Int} (h1 : 1 ≤ h) {t : WS} (g : GT E t) {s : Int} (s0 : 0 ≤ s) (s1 : s ≤ 14) (hc : cho hs t s) : GT E (pst E h s t) ∧ (pst E h s t).1 70 = t.1 70 + 1 := by
  obtain ⟨a, b, -⟩ := swp_ok G h1 g s0 s1 hc
  unfold pst
  exact ⟨⟨wa_dy G a.1, zb_dy G a.2⟩, by rw [dy_70, b]⟩
theorem cst_dy {E : EN} (G : EnG E) (hs : Int) (t : WS) : cst hs t ≤ cst hs (dy E t) ∧ cst hs (dy E t) ≤ cst hs t + 1386 := by
  unfold cst
  by_cases q : hs = -1
  · rw [if_pos q, if_pos q]
    exact dy_ow G t
  · rw [if_neg q, if_neg q]
    exact dy_ob G t hs
theorem cst_swp (hs h s : Int) (t : WS) : cst hs (swp h s t) = cst hs t := by
  unfold cst swp
  split <;> split <;> rfl
theorem cst_pst {E : EN} (G : EnG E) (hs h s : Int) (t : WS) : cst hs t ≤ cst hs (pst E h s t) ∧ cst hs (pst E h s t) ≤ cst hs t + 1386 := by
  have := cst_dy G hs (swp h s t)
  rw [cst_swp] at this
  exact this
theorem bF_id {g : Int → BE → BE} {b : BE} : ∀ (m : Nat) (s : Int), (∀ i, s ≤ i → i < s + m → g i b = b) → bF g m s b = b
  | 0, _, _ => rfl
  | m + 1, s, h => by
    rw [bF, h s (by omega) (by omega)]
    exact bF_id m (s + 1) (fun i i0 i1 => h i (by omega) (by omega))
theorem bM_ge {E : EN} (G : EnG E) {h hs : Int} : ∀ (k : Nat) (t : WS) (p : List Int) (b : BE), b.1 ≤ cst hs t → bM E h hs k t p b = b
  | 0, t, p, b, hb => by
    rw [bM, if_neg (by omega)]
  | k + 1, t, p, b, hb => by
    rw [bM]
    refine bF_id 15 0 (fun i _ _ => ?_)
    have c := cst_pst G hs h i t
    split
    · exact bM_ge G k _ _ b (by omega)
    · rfl
theorem bF_congr {g g' : Int → BE → BE} : ∀ (m : Nat) (s : Int) (b : BE), (∀ i b, s ≤ i → i < s + m → g i b = g' i b) → bF g m s b = bF g' m s b
  | 0, _, _, _ => rfl
  | m + 1, s, b, h => by
    rw [bF, bF, h s b (by omega) (by omega)]
    exact bF_congr m (s + 1) _ (fun i b i0 i1 => h i b (by omega) (by omega))
theorem bF_app (g : Int → BE → BE) : ∀ (m k : Nat) (s : Int) (b : BE), bF g (m + k) s b = bF g k (s + m) (bF g m s b)
  | 0, k, s, b => by
    rw [Nat.zero_add, bF, show s + ((0 : Nat) : Int) = s by omega]
  | m + 1, k, s, b => by
    rw [show m + 1 + k = (m + k) + 1 by omega, bF, bF, bF_app g m k (s + 1), show s + 1 + (m : Int) = s + ((m + 1 : Nat) : Int) by omega]
theorem bF_shift (g : Int → BE → BE) (a : Int) : ∀ (m : Nat) (s : Int) (b : BE), bF g m (a + s) b = bF (fun i => g (a + i)) m s b
  | 0, _, _ => rfl
  | m + 1, s, b => by
    rw [bF, bF, show a + s + 1 = a + (s + 1) by omega]
    exact bF_shift g a m (s + 1) _
theorem bF_blk (g : Int → BE → BE) (w : Nat) : ∀ (m : Nat) (s : Int) (b : BE), bF g (m * w) (s * w) b = bF (fun i b => bF g w (i * w) b) m s b
  | 0, s, b => by rw [Nat.zero_mul, bF, bF]
  | m + 1, s, b => by
    rw [show (m + 1) * w = w + m * w by rw [Nat.add_mul, Nat.one_mul, Nat.add_comm], bF_app, bF, show s * (w : Int) + w = (s + 1) * (w : Int) by rw [Int.add_mul, Int.one_mul]]
    exact bF_blk g w m (s + 1) _
def dgs : Nat → Int → List Int
  | 0, _ => []
  | n + 1, c => dgs n (c / 15) ++ [c % 15]
theorem dgs_len : ∀ (n : Nat) (c : Int), (dgs n c).length = n
  | 0, _ => rfl
  | n + 1, c => by rw [dgs, List.length_append, dgs_len n]; rfl
theorem dgs_b : ∀ (n : Nat) (c d : Int), 0 ≤ c → d ∈ dgs n c → 0 ≤ d ∧ d ≤ 14
  | 0, _, _, _, h => by cases h
  | n + 1, c, d, c0, h => by
    rw [dgs] at h
    rcases List.mem_append.1 h with h | h
    · exact dgs_b n (c / 15) d (by omega) h
    · rw [List.mem_singleton] at h
      omega
def fol (E : EN) (h hs : Int) : List Int → WS → Option WS
  | [], t => some t
  | s :: r, t => if cho hs t s then fol E h hs r (pst E h s t) else none
theorem fol_app (E : EN) (h hs : Int) : ∀ (p : List Int) (s : Int) (t : WS), fol E h hs (p ++ [s]) t = (fol E h hs p t).bind (fun u => if cho hs u s then some (pst E h s u) else none)
  | [], s, t => by
    show fol E h hs [s] t = _
    rw [fol, fol, Option.bind_some]
    split <;> rfl
  | x :: p, s, t => by
    show fol E h hs (x :: (p ++ [s])) t = _
    rw [fol, fol]
    split
    · exact fol_app E h hs p s _
    · rfl
/-- what one plan, told as a number, changes -/
def evC (E : EN) (h hs : Int) (n : Nat) (t0 : WS) (c : Int) (b : BE) : BE :=
  match fol E h hs (dgs n c) t0 with
  | none => b
  | some t => if cst hs t < b.1 then (cst hs t, dgs n c) else b
def bO (E : EN) (h hs : Int) (k : Nat) (p : List Int) (b : BE) : Option WS → BE
  | none => b
  | some t => bM E h hs k t p b
theorem bM_lin (E : EN) (h hs : Int) (t0 : WS) : ∀ (k j : Nat) (P : Int) (b : BE), 0 ≤ P → bF (evC E h hs (j + k) t0) (15 ^ k) (P * (15 ^ k : Nat)) b = bO E h hs k (dgs j P) b (fol E h hs (dgs j P) t0)
  | 0, j, P, b, P0 => by
    rw [show (15 ^ 0 : Nat) = 1 from rfl, show P * ((1 : Nat) : Int) = P by omega, Nat.add_zero, bF, bF]
    unfold evC
    cases fol E h hs (dgs j P) t0 with
    | none => rfl
    | some t => rfl
  | k + 1, j, P, b, P0 => by
    have ih := bM_lin E h hs t0 k (j + 1)
    rw [show (15 ^ (k + 1) : Nat) = 15 * 15 ^ k by rw [Nat.pow_succ, Nat.mul_comm], show j + (k + 1) = j + 1 + k by omega, show P * ((15 * 15 ^ k : Nat) : Int) = (P * 15) * ((15 ^ k : Nat) : Int) by rw [Int.natCast_mul, Int.mul_assoc]; rfl, bF_blk, show P * 15 = P * 15 + 0 by omega, bF_shift]
    have e : ∀ (i : Int) (b : BE), 0 ≤ i → i < 0 + (15 : Nat) → bF (evC E h hs (j + 1 + k) t0) (15 ^ k) ((P * 15 + i) * (15 ^ k : Nat)) b = bO E h hs k (dgs j P ++ [i]) b ((fol E h hs (dgs j P) t0).bind (fun u => if cho hs u i then some (pst E h i u) else none)) := by
      intro i b i0 i1
      rw [ih (P * 15 + i) b (by omega), dgs, show (P * 15 + i) / 15 = P by omega, show (P * 15 + i) % 15 = i by omega, fol_app]
    rw [bF_congr 15 0 b e]
    cases fol E h hs (dgs j P) t0 with
    | none => exact bF_id 15 0 (fun i _ _ => rfl)
    | some t =>
      show _ = bM E h hs (k + 1) t (dgs j P) b
      rw [bM]
      refine bF_congr 15 0 b (fun i b _ _ => ?_)
      rw [Option.bind_some]
      split <;> rfl
theorem bM_all (E : EN) (h hs : Int) (t0 : WS) (n : Nat) (b : BE) : bF (evC E h hs n t0) (15 ^ n) 0 b = bM E h hs n t0 [] b := by
  have := bM_lin E h hs t0 n 0 0 b (by omega)
  rw [Nat.zero_add, Int.zero_mul] at this
  exact this
/-- found: not more than what nobody's sweeping owes, and a whole row -/
theorem bF_le {g : Int → BE → BE} (hg : ∀ i b, (g i b).1 ≤ b.1) : ∀ (m : Nat) (s : Int) (b : BE), (bF g m s b).1 ≤ b.1
  | 0, _, _ => Int.le_refl _
  | m + 1, s, b => Int.le_trans (bF_le hg m (s + 1) (g s b)) (hg s b)
theorem bM_le {E : EN} {h hs : Int} : ∀ (k : Nat) (t : WS) (p : List Int) (b : BE), (bM E h hs k t p b).1 ≤ b.1
  | 0, t, p, b => by
    rw [bM]
    split
    · rename_i q; exact Int.le_of_lt q
    · exact Int.le_refl _
  | k + 1, t, p, b => by
    rw [bM]
    refine bF_le (fun i b => ?_) 15 0 b
    split
    · exact bM_le k _ _ b
    · exact Int.le_refl _
theorem bM_st {E : EN} (G : EnG E) {h hs : Int} : ∀ (k : Nat) (t : WS) (p : List Int) (b : BE), (bM E h hs k t p b).1 ≤ cst hs t + 1386 * k
  | 0, t, p, b => by
    rw [bM]
    split
    · show cst hs t ≤ _
      omega
    · omega
  | k + 1, t, p, b => by
    have c := cst_pst G hs h 14 t
    rw [bM, show (15 : Nat) = 14 + 1 from rfl, bF_app, bF, bF]
    rw [show (0 : Int) + ((14 : Nat) : Int) = 14 from rfl]
    rw [if_pos (Or.inl rfl)]
    have := bM_st G (h := h) (hs := hs) k (pst E h 14 t) (p ++ [14]) (bF (fun s b => if cho hs t s then bM E h hs k (pst E h s t) (p ++ [s]) b else b) 14 0 b)
    refine Int.le_trans this ?_
    show cst hs (pst E h 14 t) + 1386 * (k : Int) ≤ cst hs t + 1386 * ((k + 1 : Nat) : Int)
    omega
/-- rows are as long as nights -/
def Rl (n : Nat) (M : Int) (b : BE) : Prop := b.1 < M → b.2.length = n
theorem bF_rl {n : Nat} {M : Int} {g : Int → BE → BE} (hg : ∀ i b, Rl n M b → Rl n M (g i b)) : ∀ (m : Nat) (s : Int) (b : BE), Rl n M b → Rl n M (bF g m s b)
  | 0, _, _, h => h
  | m + 1, s, b, h => bF_rl hg m (s + 1) _ (hg s b h)
theorem bM_rl {E : EN} {h hs M : Int} : ∀ (k n : Nat) (t : WS) (p : List Int) (b : BE), p.length + k = n → Rl n M b → Rl n M (bM E h hs k t p b)
  | 0, n, t, p, b, hp, hb => by
    rw [bM]
    split
    · intro _
      exact hp
    · exact hb
  | k + 1, n, t, p, b, hp, hb => by
    rw [bM]
    refine bF_rl (fun i b hb => ?_) 15 0 b hb
    split
    · exact bM_rl k n _ _ b (by rw [List.length_append]; show p.length + 1 + k = n; omega) hb
    · exact hb
theorem bM_nn {E : EN} (G : EnG E) {h hs : Int} : ∀ (k : Nat) (t : WS) (p : List Int) (b : BE), 0 ≤ cst hs t → 0 ≤ b.1 → 0 ≤ (bM E h hs k t p b).1
  | 0, t, p, b, h0, h1 => by
    rw [bM]
    split
    · exact h0
    · exact h1
  | k + 1, t, p, b, h0, h1 => by
    rw [bM]
    have key : ∀ (m : Nat) (s : Int) (b : BE), 0 ≤ b.1 → 0 ≤ (bF (fun s b => if cho hs t s then bM E h hs k (pst E h s t) (p ++ [s]) b else b) m s b).1 := by
      intro m
      induction m with
      | zero => intro s b hb; exact hb
      | succ m ih =>
        intro s b hb
        rw [bF]
        refine ih (s + 1) _ ?_
        have c := cst_pst G hs h s t
        split
        · exact bM_nn G k _ _ b (by omega) hb
        · exact hb
    exact key 15 0 b h1
def Re (a : Nat → Int32) (l : List Int) : Prop := ∀ (j : Nat) (x : Int), l[j]? = some x → a j = iI x
