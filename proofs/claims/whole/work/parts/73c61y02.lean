set_option maxHeartbeats 4000000 in
set_option maxRecDepth 20000 in
theorem Y_above (l : Launch) (E : ENV) (q0 : Nat) (u : List Nat) (τ : MS) (p1 : Int32) {o : Int32 × MS} (h : y_above τ p1 = some o) : CI l E yX12_above cX12_above 7 (some .int) 2 [.ref q0, .int p1] (WM E q0 u τ) (WM E q0 u o.2) o.1 := by
  unfold y_above at h
  obtain ⟨o1, hg, h⟩ := bd_some h
  have h := Option.some.inj h
  subst h
  exact CI.frame2 (kX12_above l E q0 (u.getD 0 0) (u.getD 1 0) (u.getD 2 0) (u.getD 3 0) (u.getD 4 0) (u.getD 5 0) (u.getD 6 0) (u.getD 7 0) (u.getD 8 0) (u.getD 9 0) (u.getD 10 0) (u.getD 11 0) (u.getD 12 0) (u.getD 13 0) (u.getD 14 0) (u.getD 15 0) (u.getD 16 0) (u.getD 17 0) (u.getD 18 0) (u.getD 19 0) (u.getD 20 0) (u.getD 21 0) (u.getD 22 0) (u.getD 23 0) (u.getD 24 0) (τ.1 9) (τ.1 24) (τ.1 22) (τ.1 14) (τ.1 19) (rdv τ.2.2 (u.getD 5 0) (u.getD 8 0)) (τ.1 11) (τ.1 20) (τ.1 6) (τ.1 25) (τ.1 15) (τ.1 10) (τ.1 2) (τ.1 4) (τ.1 1) (τ.1 5) (τ.1 0) (τ.1 3) (τ.1 18) (τ.1 13) (τ.1 17) (τ.1 23) (τ.1 7) (τ.1 16) (τ.1 12) (τ.1 21) (τ.1 8) (τ.2.1 2) (τ.2.1 12) (τ.2.1 16) p1 o1.1 o1.2.1 o1.2.2.1 o1.2.2.2 hg) [0, 3, 1, 7] rfl rfl rfl 26 [2, 4, 5, 6, 8, 9, 10, 11, 12, 13, 14, 15, 16, 17, 18, 19, 20, 21, 22, 23, 24, 25] rfl rfl rfl rfl (by decide +kernel)
set_option maxHeartbeats 4000000 in
set_option maxRecDepth 20000 in
theorem Y_debt (l : Launch) (E : ENV) (q0 : Nat) (u : List Nat) (τ : MS) (p1 p2 : Int32) {o : Int32 × MS} (h : y_debt τ p1 p2 = some o) : CI l E yX12_debt cX12_debt 3 (some .int) 3 [.ref q0, .int p1, .int p2] (WM E q0 u τ) (WM E q0 u o.2) o.1 := by
  unfold y_debt at h
  obtain ⟨o1, hg, h⟩ := bd_some h
  have h := Option.some.inj h
  subst h
  exact CI.frame2 (kX12_debt l E q0 (u.getD 0 0) (u.getD 1 0) (u.getD 2 0) (u.getD 3 0) (u.getD 4 0) (u.getD 5 0) (u.getD 6 0) (u.getD 7 0) (u.getD 8 0) (u.getD 9 0) (u.getD 10 0) (u.getD 11 0) (u.getD 12 0) (u.getD 13 0) (u.getD 14 0) (u.getD 15 0) (u.getD 16 0) (u.getD 17 0) (u.getD 18 0) (u.getD 19 0) (u.getD 20 0) (u.getD 21 0) (u.getD 22 0) (u.getD 23 0) (u.getD 24 0) (τ.1 9) (τ.1 24) (τ.1 22) (τ.1 14) (τ.1 19) (rdv τ.2.2 (u.getD 5 0) (u.getD 8 0)) (τ.1 11) (τ.1 20) (τ.1 6) (τ.1 25) (τ.1 15) (τ.1 10) (τ.1 2) (τ.1 4) (τ.1 1) (τ.1 5) (τ.1 0) (τ.1 3) (τ.1 18) (τ.1 13) (τ.1 17) (τ.1 23) (τ.1 7) (τ.1 16) (τ.1 12) (τ.1 21) (τ.1 8) (τ.2.1 12) p1 p2 o1.1 o1.2 hg) [0, 1] rfl rfl rfl 26 [2, 3, 4, 5, 6, 7, 8, 9, 10, 11, 12, 13, 14, 15, 16, 17, 18, 19, 20, 21, 22, 23, 24, 25] rfl rfl rfl rfl (by decide +kernel)
set_option maxHeartbeats 4000000 in
set_option maxRecDepth 20000 in
theorem Y_day (l : Launch) (E : ENV) (q0 : Nat) (u : List Nat) (τ : MS) {o : Int32 × MS} (h : y_day τ = some o) : CI l E yX12_day cX12_day 1 (some .int) 88 [.ref q0] (WM E q0 u τ) (WM E q0 u o.2) o.1 := by
  unfold y_day at h
  obtain ⟨o1, hg, h⟩ := bd_some h
  have h := Option.some.inj h
  subst h
  exact CI.frame2 (kX12_day l E q0 (u.getD 0 0) (u.getD 1 0) (u.getD 2 0) (u.getD 3 0) (u.getD 4 0) (u.getD 5 0) (u.getD 6 0) (u.getD 7 0) (u.getD 8 0) (u.getD 9 0) (u.getD 10 0) (u.getD 11 0) (u.getD 12 0) (u.getD 13 0) (u.getD 14 0) (u.getD 15 0) (u.getD 16 0) (u.getD 17 0) (u.getD 18 0) (u.getD 19 0) (u.getD 20 0) (u.getD 21 0) (u.getD 22 0) (u.getD 23 0) (u.getD 24 0) (τ.1 9) (τ.1 24) (τ.1 22) (τ.1 14) (τ.1 19) τ.2.2 (τ.1 11) (τ.1 20) (τ.1 6) (τ.1 25) (τ.1 15) (τ.1 10) (τ.1 2) (τ.1 4) (τ.1 1) (τ.1 5) (τ.1 0) (τ.1 3) (τ.1 18) (τ.1 13) (τ.1 17) (τ.1 23) (τ.1 7) (τ.1 16) (τ.1 12) (τ.1 21) (τ.1 8) (τ.2.1 22) (τ.2.1 12) (τ.2.1 13) (τ.2.1 23) (τ.2.1 7) (τ.2.1 2) (τ.2.1 17) (τ.2.1 16) o1.1 o1.2.1 o1.2.2.1 o1.2.2.2.1 o1.2.2.2.2.1 o1.2.2.2.2.2.1 o1.2.2.2.2.2.2.1 o1.2.2.2.2.2.2.2.1 o1.2.2.2.2.2.2.2.2.1 o1.2.2.2.2.2.2.2.2.2.1 o1.2.2.2.2.2.2.2.2.2.2.1 o1.2.2.2.2.2.2.2.2.2.2.2.1 o1.2.2.2.2.2.2.2.2.2.2.2.2.1 o1.2.2.2.2.2.2.2.2.2.2.2.2.2.1 o1.2.2.2.2.2.2.2.2.2.2.2.2.2.2.1 o1.2.2.2.2.2.2.2.2.2.2.2.2.2.2.2.1 o1.2.2.2.2.2.2.2.2.2.2.2.2.2.2.2.2.1 o1.2.2.2.2.2.2.2.2.2.2.2.2.2.2.2.2.2.1 o1.2.2.2.2.2.2.2.2.2.2.2.2.2.2.2.2.2.2.1 o1.2.2.2.2.2.2.2.2.2.2.2.2.2.2.2.2.2.2.2.1 o1.2.2.2.2.2.2.2.2.2.2.2.2.2.2.2.2.2.2.2.2.1 o1.2.2.2.2.2.2.2.2.2.2.2.2.2.2.2.2.2.2.2.2.2.1 o1.2.2.2.2.2.2.2.2.2.2.2.2.2.2.2.2.2.2.2.2.2.2 hg) [0, 11, 1, 10, 5, 2, 3, 9, 7] rfl rfl rfl 26 [4, 6, 8, 12, 13, 14, 15, 16, 17, 18, 19, 20, 21, 22, 23, 24, 25] rfl rfl rfl rfl (by decide +kernel)
set_option maxHeartbeats 4000000 in
set_option maxRecDepth 20000 in
theorem Y_days (l : Launch) (E : ENV) (q0 : Nat) (u : List Nat) (τ : MS) (p1 : Int32) {o : Int32 × MS} (h : y_days τ p1 = some o) : CI l E yX12_days cX12_days 2 (some .int) 88 [.ref q0, .int p1] (WM E q0 u τ) (WM E q0 u o.2) o.1 := by
  unfold y_days at h
  obtain ⟨o1, hg, h⟩ := bd_some h
  have h := Option.some.inj h
  subst h
  exact CI.frame2 (kX12_days l E q0 (u.getD 0 0) (u.getD 1 0) (u.getD 2 0) (u.getD 3 0) (u.getD 4 0) (u.getD 5 0) (u.getD 6 0) (u.getD 7 0) (u.getD 8 0) (u.getD 9 0) (u.getD 10 0) (u.getD 11 0) (u.getD 12 0) (u.getD 13 0) (u.getD 14 0) (u.getD 15 0) (u.getD 16 0) (u.getD 17 0) (u.getD 18 0) (u.getD 19 0) (u.getD 20 0) (u.getD 21 0) (u.getD 22 0) (u.getD 23 0) (u.getD 24 0) (τ.1 9) (τ.1 24) (τ.1 22) (τ.1 14) (τ.1 19) τ.2.2 (τ.1 11) (τ.1 20) (τ.1 6) (τ.1 25) (τ.1 15) (τ.1 10) (τ.1 2) (τ.1 4) (τ.1 1) (τ.1 5) (τ.1 0) (τ.1 3) (τ.1 18) (τ.1 13) (τ.1 17) (τ.1 23) (τ.1 7) (τ.1 16) (τ.1 12) (τ.1 21) (τ.1 8) (τ.2.1 22) (τ.2.1 12) (τ.2.1 13) (τ.2.1 23) (τ.2.1 7) (τ.2.1 2) (τ.2.1 17) (τ.2.1 16) p1 o1.1 o1.2.1 o1.2.2.1 o1.2.2.2.1 o1.2.2.2.2.1 o1.2.2.2.2.2.1 o1.2.2.2.2.2.2.1 o1.2.2.2.2.2.2.2.1 o1.2.2.2.2.2.2.2.2.1 o1.2.2.2.2.2.2.2.2.2.1 o1.2.2.2.2.2.2.2.2.2.2.1 o1.2.2.2.2.2.2.2.2.2.2.2.1 o1.2.2.2.2.2.2.2.2.2.2.2.2.1 o1.2.2.2.2.2.2.2.2.2.2.2.2.2.1 o1.2.2.2.2.2.2.2.2.2.2.2.2.2.2.1 o1.2.2.2.2.2.2.2.2.2.2.2.2.2.2.2.1 o1.2.2.2.2.2.2.2.2.2.2.2.2.2.2.2.2.1 o1.2.2.2.2.2.2.2.2.2.2.2.2.2.2.2.2.2.1 o1.2.2.2.2.2.2.2.2.2.2.2.2.2.2.2.2.2.2.1 o1.2.2.2.2.2.2.2.2.2.2.2.2.2.2.2.2.2.2.2.1 o1.2.2.2.2.2.2.2.2.2.2.2.2.2.2.2.2.2.2.2.2.1 o1.2.2.2.2.2.2.2.2.2.2.2.2.2.2.2.2.2.2.2.2.2.1 o1.2.2.2.2.2.2.2.2.2.2.2.2.2.2.2.2.2.2.2.2.2.2 hg) [0, 11, 1, 10, 5, 2, 3, 9, 7] rfl rfl rfl 26 [4, 6, 8, 12, 13, 14, 15, 16, 17, 18, 19, 20, 21, 22, 23, 24, 25] rfl rfl rfl rfl (by decide +kernel)
set_option maxHeartbeats 4000000 in
set_option maxRecDepth 20000 in
theorem Y_sweep (l : Launch) (E : ENV) (q0 : Nat) (u : List Nat) (τ : MS) (p1 p2 : Int32) {o : Int32 × MS} (h : y_sweep τ p1 p2 = some o) : CI l E yX12_sweep cX12_sweep 4 (some .int) 3 [.ref q0, .int p1, .int p2] (WM E q0 u τ) (WM E q0 u o.2) o.1 := by
  unfold y_sweep at h
  obtain ⟨o1, hg, h⟩ := bd_some h
  have h := Option.some.inj h
  subst h
  exact CI.frame2 (kX12_sweep l E q0 (u.getD 0 0) (u.getD 1 0) (u.getD 2 0) (u.getD 3 0) (u.getD 4 0) (u.getD 5 0) (u.getD 6 0) (u.getD 7 0) (u.getD 8 0) (u.getD 9 0) (u.getD 10 0) (u.getD 11 0) (u.getD 12 0) (u.getD 13 0) (u.getD 14 0) (u.getD 15 0) (u.getD 16 0) (u.getD 17 0) (u.getD 18 0) (u.getD 19 0) (u.getD 20 0) (u.getD 21 0) (u.getD 22 0) (u.getD 23 0) (u.getD 24 0) (τ.1 9) (τ.1 24) (τ.1 22) (τ.1 14) (τ.1 19) (rdv τ.2.2 (u.getD 5 0) (u.getD 8 0)) (τ.1 11) (τ.1 20) (τ.1 6) (τ.1 25) (τ.1 15) (τ.1 10) (τ.1 2) (τ.1 4) (τ.1 1) (τ.1 5) (τ.1 0) (τ.1 3) (τ.1 18) (τ.1 13) (τ.1 17) (τ.1 23) (τ.1 7) (τ.1 16) (τ.1 12) (τ.1 21) (τ.1 8) (τ.2.1 12) (τ.2.1 22) p1 p2 o1.1 o1.2.1 o1.2.2.1 o1.2.2.2.1 o1.2.2.2.2 hg) [0, 1, 11] rfl rfl rfl 26 [2, 3, 4, 5, 6, 7, 8, 9, 10, 12, 13, 14, 15, 16, 17, 18, 19, 20, 21, 22, 23, 24, 25] rfl rfl rfl rfl (by decide +kernel)
set_option maxHeartbeats 4000000 in
set_option maxRecDepth 20000 in
theorem Y_clear (l : Launch) (E : ENV) (q0 : Nat) (u : List Nat) (τ : MS) (p1 p2 : Int32) {o : Int32 × MS} (h : y_clear τ p1 p2 = some o) : CI l E yX12_clear cX12_clear 4 (some .int) 3 [.ref q0, .int p1, .int p2] (WM E q0 u τ) (WM E q0 u o.2) o.1 := by
  unfold y_clear at h
  obtain ⟨o1, hg, h⟩ := bd_some h
  have h := Option.some.inj h
  subst h
  exact CI.frame2 (kX12_clear l E q0 (u.getD 0 0) (u.getD 1 0) (u.getD 2 0) (u.getD 3 0) (u.getD 4 0) (u.getD 5 0) (u.getD 6 0) (u.getD 7 0) (u.getD 8 0) (u.getD 9 0) (u.getD 10 0) (u.getD 11 0) (u.getD 12 0) (u.getD 13 0) (u.getD 14 0) (u.getD 15 0) (u.getD 16 0) (u.getD 17 0) (u.getD 18 0) (u.getD 19 0) (u.getD 20 0) (u.getD 21 0) (u.getD 22 0) (u.getD 23 0) (u.getD 24 0) (τ.1 9) (τ.1 24) (τ.1 22) (τ.1 14) (τ.1 19) (rdv τ.2.2 (u.getD 5 0) (u.getD 8 0)) (τ.1 11) (τ.1 20) (τ.1 6) (τ.1 25) (τ.1 15) (τ.1 10) (τ.1 2) (τ.1 4) (τ.1 1) (τ.1 5) (τ.1 0) (τ.1 3) (τ.1 18) (τ.1 13) (τ.1 17) (τ.1 23) (τ.1 7) (τ.1 16) (τ.1 12) (τ.1 21) (τ.1 8) (τ.2.1 12) (τ.2.1 22) p1 p2 o1.1 o1.2.1 o1.2.2.1 o1.2.2.2.1 o1.2.2.2.2 hg) [0, 1, 11] rfl rfl rfl 26 [2, 3, 4, 5, 6, 7, 8, 9, 10, 12, 13, 14, 15, 16, 17, 18, 19, 20, 21, 22, 23, 24, 25] rfl rfl rfl rfl (by decide +kernel)
set_option maxHeartbeats 4000000 in
set_option maxRecDepth 20000 in
theorem Y_wind (l : Launch) (E : ENV) (q0 : Nat) (u : List Nat) (τ : MS) (p1 p2 : Int32) {o : Int32 × MS} (h : y_wind τ p1 p2 = some o) : CI l E yX12_wind cX12_wind 6 (some .int) 2 [.ref q0, .int p1, .int p2] (WM E q0 u τ) (WM E q0 u o.2) o.1 := by
  unfold y_wind at h
  obtain ⟨o1, hg, h⟩ := bd_some h
  have h := Option.some.inj h
  subst h
  exact CI.frame2 (kX12_wind l E q0 (u.getD 0 0) (u.getD 1 0) (u.getD 2 0) (u.getD 3 0) (u.getD 4 0) (u.getD 5 0) (u.getD 6 0) (u.getD 7 0) (u.getD 8 0) (u.getD 9 0) (u.getD 10 0) (u.getD 11 0) (u.getD 12 0) (u.getD 13 0) (u.getD 14 0) (u.getD 15 0) (u.getD 16 0) (u.getD 17 0) (u.getD 18 0) (u.getD 19 0) (u.getD 20 0) (u.getD 21 0) (u.getD 22 0) (u.getD 23 0) (u.getD 24 0) (τ.1 9) (τ.1 24) (τ.1 22) (τ.1 14) (τ.1 19) (rdv τ.2.2 (u.getD 5 0) (u.getD 8 0)) (τ.1 11) (τ.1 20) (τ.1 6) (τ.1 25) (τ.1 15) (τ.1 10) (τ.1 2) (τ.1 4) (τ.1 1) (τ.1 5) (τ.1 0) (τ.1 3) (τ.1 18) (τ.1 13) (τ.1 17) (τ.1 23) (τ.1 7) (τ.1 16) (τ.1 12) (τ.1 21) (τ.1 8) (τ.2.1 22) (τ.2.1 12) p1 p2 o1.1 o1.2.1 o1.2.2.1 o1.2.2.2.1 o1.2.2.2.2 hg) [0, 11, 1] rfl rfl rfl 26 [2, 3, 4, 5, 6, 7, 8, 9, 10, 12, 13, 14, 15, 16, 17, 18, 19, 20, 21, 22, 23, 24, 25] rfl rfl rfl rfl (by decide +kernel)
set_option maxHeartbeats 4000000 in
set_option maxRecDepth 20000 in
theorem Y_loose (l : Launch) (E : ENV) (q0 : Nat) (u : List Nat) (τ : MS) (p1 p2 : Int32) {o : Int32 × MS} (h : y_loose τ p1 p2 = some o) : CI l E yX12_loose cX12_loose 5 (some .int) 86 [.ref q0, .int p1, .int p2] (WM E q0 u τ) (WM E q0 u o.2) o.1 := by
  unfold y_loose at h
  obtain ⟨o1, hg, h⟩ := bd_some h
  have h := Option.some.inj h
  subst h
  exact CI.frame2 (kX12_loose l E q0 (u.getD 0 0) (u.getD 1 0) (u.getD 2 0) (u.getD 3 0) (u.getD 4 0) (u.getD 5 0) (u.getD 6 0) (u.getD 7 0) (u.getD 8 0) (u.getD 9 0) (u.getD 10 0) (u.getD 11 0) (u.getD 12 0) (u.getD 13 0) (u.getD 14 0) (u.getD 15 0) (u.getD 16 0) (u.getD 17 0) (u.getD 18 0) (u.getD 19 0) (u.getD 20 0) (u.getD 21 0) (u.getD 22 0) (u.getD 23 0) (u.getD 24 0) (τ.1 9) (τ.1 24) (τ.1 22) (τ.1 14) (τ.1 19) τ.2.2 (τ.1 11) (τ.1 20) (τ.1 6) (τ.1 25) (τ.1 15) (τ.1 10) (τ.1 2) (τ.1 4) (τ.1 1) (τ.1 5) (τ.1 0) (τ.1 3) (τ.1 18) (τ.1 13) (τ.1 17) (τ.1 23) (τ.1 7) (τ.1 16) (τ.1 12) (τ.1 21) (τ.1 8) (τ.2.1 12) (τ.2.1 22) (τ.2.1 13) (τ.2.1 2) (τ.2.1 17) (τ.2.1 7) (τ.2.1 23) (τ.2.1 16) p1 p2 o1.1 o1.2.1 o1.2.2.1 o1.2.2.2.1 o1.2.2.2.2.1 o1.2.2.2.2.2.1 o1.2.2.2.2.2.2.1 o1.2.2.2.2.2.2.2.1 o1.2.2.2.2.2.2.2.2.1 o1.2.2.2.2.2.2.2.2.2.1 o1.2.2.2.2.2.2.2.2.2.2.1 o1.2.2.2.2.2.2.2.2.2.2.2.1 o1.2.2.2.2.2.2.2.2.2.2.2.2.1 o1.2.2.2.2.2.2.2.2.2.2.2.2.2.1 o1.2.2.2.2.2.2.2.2.2.2.2.2.2.2.1 o1.2.2.2.2.2.2.2.2.2.2.2.2.2.2.2.1 o1.2.2.2.2.2.2.2.2.2.2.2.2.2.2.2.2.1 o1.2.2.2.2.2.2.2.2.2.2.2.2.2.2.2.2.2.1 o1.2.2.2.2.2.2.2.2.2.2.2.2.2.2.2.2.2.2.1 o1.2.2.2.2.2.2.2.2.2.2.2.2.2.2.2.2.2.2.2.1 o1.2.2.2.2.2.2.2.2.2.2.2.2.2.2.2.2.2.2.2.2.1 o1.2.2.2.2.2.2.2.2.2.2.2.2.2.2.2.2.2.2.2.2.2.1 o1.2.2.2.2.2.2.2.2.2.2.2.2.2.2.2.2.2.2.2.2.2.2 hg) [0, 1, 11, 10, 3, 9, 2, 5, 7] rfl rfl rfl 26 [4, 6, 8, 12, 13, 14, 15, 16, 17, 18, 19, 20, 21, 22, 23, 24, 25] rfl rfl rfl rfl (by decide +kernel)
set_option maxHeartbeats 4000000 in
set_option maxRecDepth 20000 in
theorem Y_work (l : Launch) (E : ENV) (q0 : Nat) (u : List Nat) (τ : MS) (p1 p2 p3 : Int32) {o : Int32 × MS} (h : y_work τ p1 p2 p3 = some o) : CI l E yX12_work cX12_work 5 (some .int) 3 [.ref q0, .int p1, .int p2, .int p3] (WM E q0 u τ) (WM E q0 u o.2) o.1 := by
  unfold y_work at h
  obtain ⟨o1, hg, h⟩ := bd_some h
  have h := Option.some.inj h
  subst h
  exact CI.frame2 (kX12_work l E q0 (u.getD 0 0) (u.getD 1 0) (u.getD 2 0) (u.getD 3 0) (u.getD 4 0) (u.getD 5 0) (u.getD 6 0) (u.getD 7 0) (u.getD 8 0) (u.getD 9 0) (u.getD 10 0) (u.getD 11 0) (u.getD 12 0) (u.getD 13 0) (u.getD 14 0) (u.getD 15 0) (u.getD 16 0) (u.getD 17 0) (u.getD 18 0) (u.getD 19 0) (u.getD 20 0) (u.getD 21 0) (u.getD 22 0) (u.getD 23 0) (u.getD 24 0) (τ.1 9) (τ.1 24) (τ.1 22) (τ.1 14) (τ.1 19) (rdv τ.2.2 (u.getD 5 0) (u.getD 8 0)) (τ.1 11) (τ.1 20) (τ.1 6) (τ.1 25) (τ.1 15) (τ.1 10) (τ.1 2) (τ.1 4) (τ.1 1) (τ.1 5) (τ.1 0) (τ.1 3) (τ.1 18) (τ.1 13) (τ.1 17) (τ.1 23) (τ.1 7) (τ.1 16) (τ.1 12) (τ.1 21) (τ.1 8) (τ.2.1 12) (τ.2.1 22) p1 p2 p3 o1.1 o1.2.1 o1.2.2.1 o1.2.2.2.1 o1.2.2.2.2 hg) [0, 1, 11] rfl rfl rfl 26 [2, 3, 4, 5, 6, 7, 8, 9, 10, 12, 13, 14, 15, 16, 17, 18, 19, 20, 21, 22, 23, 24, 25] rfl rfl rfl rfl (by decide +kernel)
set_option maxHeartbeats 4000000 in
set_option maxRecDepth 20000 in
theorem Y_night (l : Launch) (E : ENV) (q0 : Nat) (u : List Nat) (τ : MS) {o : Int32 × MS} (h : y_night τ = some o) : CI l E yX12_night cX12_night 4 (some .int) 88 [.ref q0] (WM E q0 u τ) (WM E q0 u o.2) o.1 := by
  unfold y_night at h
  obtain ⟨o1, hg, h⟩ := bd_some h
  have h := Option.some.inj h
  subst h
  exact CI.frame2 (kX12_night l E q0 (u.getD 0 0) (u.getD 1 0) (u.getD 2 0) (u.getD 3 0) (u.getD 4 0) (u.getD 5 0) (u.getD 6 0) (u.getD 7 0) (u.getD 8 0) (u.getD 9 0) (u.getD 10 0) (u.getD 11 0) (u.getD 12 0) (u.getD 13 0) (u.getD 14 0) (u.getD 15 0) (u.getD 16 0) (u.getD 17 0) (u.getD 18 0) (u.getD 19 0) (u.getD 20 0) (u.getD 21 0) (u.getD 22 0) (u.getD 23 0) (u.getD 24 0) (τ.1 9) (τ.1 24) (τ.1 22) (τ.1 14) (τ.1 19) τ.2.2 (τ.1 11) (τ.1 20) (τ.1 6) (τ.1 25) (τ.1 15) (τ.1 10) (τ.1 2) (τ.1 4) (τ.1 1) (τ.1 5) (τ.1 0) (τ.1 3) (τ.1 18) (τ.1 13) (τ.1 17) (τ.1 23) (τ.1 7) (τ.1 16) (τ.1 12) (τ.1 21) (τ.1 8) (τ.2.1 18) (τ.2.1 0) (τ.2.1 12) (τ.2.1 1) (τ.2.1 13) (τ.2.1 23) (τ.2.1 7) (τ.2.1 2) (τ.2.1 17) (τ.2.1 22) (τ.2.1 16) o1.1 o1.2.1 o1.2.2.1 o1.2.2.2.1 o1.2.2.2.2.1 o1.2.2.2.2.2.1 o1.2.2.2.2.2.2.1 o1.2.2.2.2.2.2.2.1 o1.2.2.2.2.2.2.2.2.1 o1.2.2.2.2.2.2.2.2.2.1 o1.2.2.2.2.2.2.2.2.2.2.1 o1.2.2.2.2.2.2.2.2.2.2.2.1 o1.2.2.2.2.2.2.2.2.2.2.2.2.1 o1.2.2.2.2.2.2.2.2.2.2.2.2.2.1 o1.2.2.2.2.2.2.2.2.2.2.2.2.2.2.1 o1.2.2.2.2.2.2.2.2.2.2.2.2.2.2.2.1 o1.2.2.2.2.2.2.2.2.2.2.2.2.2.2.2.2.1 o1.2.2.2.2.2.2.2.2.2.2.2.2.2.2.2.2.2.1 o1.2.2.2.2.2.2.2.2.2.2.2.2.2.2.2.2.2.2.1 o1.2.2.2.2.2.2.2.2.2.2.2.2.2.2.2.2.2.2.2.1 o1.2.2.2.2.2.2.2.2.2.2.2.2.2.2.2.2.2.2.2.2.1 o1.2.2.2.2.2.2.2.2.2.2.2.2.2.2.2.2.2.2.2.2.2.1 o1.2.2.2.2.2.2.2.2.2.2.2.2.2.2.2.2.2.2.2.2.2.2.1 o1.2.2.2.2.2.2.2.2.2.2.2.2.2.2.2.2.2.2.2.2.2.2.2.1 o1.2.2.2.2.2.2.2.2.2.2.2.2.2.2.2.2.2.2.2.2.2.2.2.2.1 o1.2.2.2.2.2.2.2.2.2.2.2.2.2.2.2.2.2.2.2.2.2.2.2.2.2 hg) [0, 6, 13, 1, 12, 10, 5, 2, 3, 9, 11, 7] rfl rfl rfl 26 [4, 8, 14, 15, 16, 17, 18, 19, 20, 21, 22, 23, 24, 25] rfl rfl rfl rfl (by decide +kernel)
