set_option maxHeartbeats 4000000 in
set_option maxRecDepth 20000 in
theorem Y_track (l : Launch) (E : ENV) (q0 : Nat) (u : List Nat) (τ : MS) (p1 p2 : Int32) {o : Int32 × MS} (h : y_track τ p1 p2 = some o) : CI l E yX12_track cX12_track 3 (some .int) 2 [.ref q0, .int p1, .int p2] (WM E q0 u τ) (WM E q0 u o.2) o.1 := by
  unfold y_track at h
  obtain ⟨o1, hg, h⟩ := bd_some h
  have h := Option.some.inj h
  subst h
  exact CI.frame2 (kX12_track l E q0 (u.getD 0 0) (u.getD 1 0) (u.getD 2 0) (u.getD 3 0) (u.getD 4 0) (u.getD 5 0) (u.getD 6 0) (u.getD 7 0) (u.getD 8 0) (u.getD 9 0) (u.getD 10 0) (u.getD 11 0) (u.getD 12 0) (u.getD 13 0) (u.getD 14 0) (u.getD 15 0) (u.getD 16 0) (u.getD 17 0) (u.getD 18 0) (u.getD 19 0) (u.getD 20 0) (u.getD 21 0) (u.getD 22 0) (u.getD 23 0) (u.getD 24 0) (τ.1 9) (τ.1 24) (τ.1 22) (τ.1 14) (τ.1 19) (rdv τ.2.2 (u.getD 5 0) (u.getD 8 0)) (τ.1 11) (τ.1 20) (τ.1 6) (τ.1 25) (τ.1 15) (τ.1 10) (τ.1 2) (τ.1 4) (τ.1 1) (τ.1 5) (τ.1 0) (τ.1 3) (τ.1 18) (τ.1 13) (τ.1 17) (τ.1 23) (τ.1 7) (τ.1 16) (τ.1 12) (τ.1 21) (τ.1 8) (τ.2.1 20) p1 p2 o1.1 o1.2.1 o1.2.2.1 o1.2.2.2 hg) [0, 22] rfl rfl rfl 26 [1, 2, 3, 4, 5, 6, 7, 8, 9, 10, 11, 12, 13, 14, 15, 16, 17, 18, 19, 20, 21, 23, 24, 25] rfl rfl rfl rfl (by decide +kernel)
set_option maxHeartbeats 4000000 in
set_option maxRecDepth 20000 in
theorem Y_thaw (l : Launch) (E : ENV) (q0 : Nat) (u : List Nat) (τ : MS) {o : Int32 × MS} (h : y_thaw τ = some o) : CI l E yX12_thaw cX12_thaw 2 (some .int) 0 [.ref q0] (WM E q0 u τ) (WM E q0 u o.2) o.1 := by
  unfold y_thaw at h
  obtain ⟨o1, hg, h⟩ := bd_some h
  have h := Option.some.inj h
  subst h
  exact CI.frame2 (kX12_thaw l E q0 (u.getD 0 0) (u.getD 1 0) (u.getD 2 0) (u.getD 3 0) (u.getD 4 0) (u.getD 5 0) (u.getD 6 0) (u.getD 7 0) (u.getD 8 0) (u.getD 9 0) (u.getD 10 0) (u.getD 11 0) (u.getD 12 0) (u.getD 13 0) (u.getD 14 0) (u.getD 15 0) (u.getD 16 0) (u.getD 17 0) (u.getD 18 0) (u.getD 19 0) (u.getD 20 0) (u.getD 21 0) (u.getD 22 0) (u.getD 23 0) (u.getD 24 0) (τ.1 9) (τ.1 24) (τ.1 22) (τ.1 14) (τ.1 19) (rdv τ.2.2 (u.getD 5 0) (u.getD 8 0)) (τ.1 11) (τ.1 20) (τ.1 6) (τ.1 25) (τ.1 15) (τ.1 10) (τ.1 2) (τ.1 4) (τ.1 1) (τ.1 5) (τ.1 0) (τ.1 3) (τ.1 18) (τ.1 13) (τ.1 17) (τ.1 23) (τ.1 7) (τ.1 16) (τ.1 12) (τ.1 21) (τ.1 8) o1.1 o1.2.1 o1.2.2 hg) [0] rfl rfl rfl 26 [1, 2, 3, 4, 5, 6, 7, 8, 9, 10, 11, 12, 13, 14, 15, 16, 17, 18, 19, 20, 21, 22, 23, 24, 25] rfl rfl rfl rfl (by decide +kernel)
set_option maxHeartbeats 4000000 in
set_option maxRecDepth 20000 in
theorem Y_suspects (l : Launch) (E : ENV) (q0 : Nat) (u : List Nat) (τ : MS) (p1 : Int32) {o : Int32 × MS} (h : y_suspects τ p1 = some o) : CI l E yX12_suspects cX12_suspects 4 (some .int) 1 [.ref q0, .int p1] (WM E q0 u τ) (WM E q0 u o.2) o.1 := by
  unfold y_suspects at h
  obtain ⟨o1, hg, h⟩ := bd_some h
  have h := Option.some.inj h
  subst h
  exact CI.frame2 (kX12_suspects l E q0 (u.getD 0 0) (u.getD 1 0) (u.getD 2 0) (u.getD 3 0) (u.getD 4 0) (u.getD 5 0) (u.getD 6 0) (u.getD 7 0) (u.getD 8 0) (u.getD 9 0) (u.getD 10 0) (u.getD 11 0) (u.getD 12 0) (u.getD 13 0) (u.getD 14 0) (u.getD 15 0) (u.getD 16 0) (u.getD 17 0) (u.getD 18 0) (u.getD 19 0) (u.getD 20 0) (u.getD 21 0) (u.getD 22 0) (u.getD 23 0) (u.getD 24 0) (τ.1 9) (τ.1 24) (τ.1 22) (τ.1 14) (τ.1 19) (rdv τ.2.2 (u.getD 5 0) (u.getD 8 0)) (τ.1 11) (τ.1 20) (τ.1 6) (τ.1 25) (τ.1 15) (τ.1 10) (τ.1 2) (τ.1 4) (τ.1 1) (τ.1 5) (τ.1 0) (τ.1 3) (τ.1 18) (τ.1 13) (τ.1 17) (τ.1 23) (τ.1 7) (τ.1 16) (τ.1 12) (τ.1 21) (τ.1 8) (τ.2.1 20) p1 o1.1 o1.2 hg) [0, 22] rfl rfl rfl 26 [1, 2, 3, 4, 5, 6, 7, 8, 9, 10, 11, 12, 13, 14, 15, 16, 17, 18, 19, 20, 21, 23, 24, 25] rfl rfl rfl rfl (by decide +kernel)
set_option maxHeartbeats 4000000 in
set_option maxRecDepth 20000 in
theorem Y_gang (l : Launch) (E : ENV) (q0 : Nat) (u : List Nat) (τ : MS) (p1 : Int32) {o : Int32 × MS} (h : y_gang τ p1 = some o) : CI l E yX12_gang cX12_gang 6 (some .int) 1 [.ref q0, .int p1] (WM E q0 u τ) (WM E q0 u o.2) o.1 := by
  unfold y_gang at h
  obtain ⟨o1, hg, h⟩ := bd_some h
  have h := Option.some.inj h
  subst h
  exact CI.frame2 (kX12_gang l E q0 (u.getD 0 0) (u.getD 1 0) (u.getD 2 0) (u.getD 3 0) (u.getD 4 0) (u.getD 5 0) (u.getD 6 0) (u.getD 7 0) (u.getD 8 0) (u.getD 9 0) (u.getD 10 0) (u.getD 11 0) (u.getD 12 0) (u.getD 13 0) (u.getD 14 0) (u.getD 15 0) (u.getD 16 0) (u.getD 17 0) (u.getD 18 0) (u.getD 19 0) (u.getD 20 0) (u.getD 21 0) (u.getD 22 0) (u.getD 23 0) (u.getD 24 0) (τ.1 9) (τ.1 24) (τ.1 22) (τ.1 14) (τ.1 19) (rdv τ.2.2 (u.getD 5 0) (u.getD 8 0)) (τ.1 11) (τ.1 20) (τ.1 6) (τ.1 25) (τ.1 15) (τ.1 10) (τ.1 2) (τ.1 4) (τ.1 1) (τ.1 5) (τ.1 0) (τ.1 3) (τ.1 18) (τ.1 13) (τ.1 17) (τ.1 23) (τ.1 7) (τ.1 16) (τ.1 12) (τ.1 21) (τ.1 8) (τ.2.1 20) (τ.2.1 16) p1 o1.1 o1.2.1 o1.2.2.1 o1.2.2.2 hg) [0, 22, 7] rfl rfl rfl 26 [1, 2, 3, 4, 5, 6, 8, 9, 10, 11, 12, 13, 14, 15, 16, 17, 18, 19, 20, 21, 23, 24, 25] rfl rfl rfl rfl (by decide +kernel)
set_option maxHeartbeats 4000000 in
set_option maxRecDepth 20000 in
theorem Y_keep (l : Launch) (E : ENV) (q0 : Nat) (u : List Nat) (τ : MS) (p1 : Int32) {o : Int32 × MS} (h : y_keep τ p1 = some o) : CI l E yX12_keep cX12_keep 2 (some .boolean) 1 [.ref q0, .int p1] (WM E q0 u τ) (WM E q0 u o.2) o.1 := by
  unfold y_keep at h
  obtain ⟨o1, hg, h⟩ := bd_some h
  have h := Option.some.inj h
  subst h
  exact CI.frame2 (kX12_keep l E q0 (u.getD 0 0) (u.getD 1 0) (u.getD 2 0) (u.getD 3 0) (u.getD 4 0) (u.getD 5 0) (u.getD 6 0) (u.getD 7 0) (u.getD 8 0) (u.getD 9 0) (u.getD 10 0) (u.getD 11 0) (u.getD 12 0) (u.getD 13 0) (u.getD 14 0) (u.getD 15 0) (u.getD 16 0) (u.getD 17 0) (u.getD 18 0) (u.getD 19 0) (u.getD 20 0) (u.getD 21 0) (u.getD 22 0) (u.getD 23 0) (u.getD 24 0) (τ.1 9) (τ.1 24) (τ.1 22) (τ.1 14) (τ.1 19) (rdv τ.2.2 (u.getD 5 0) (u.getD 8 0)) (τ.1 11) (τ.1 20) (τ.1 6) (τ.1 25) (τ.1 15) (τ.1 10) (τ.1 2) (τ.1 4) (τ.1 1) (τ.1 5) (τ.1 0) (τ.1 3) (τ.1 18) (τ.1 13) (τ.1 17) (τ.1 23) (τ.1 7) (τ.1 16) (τ.1 12) (τ.1 21) (τ.1 8) (τ.2.1 8) (τ.2.1 10) (τ.2.1 12) (τ.2.1 9) p1 o1.1 o1.2.1 o1.2.2.1 o1.2.2.2.1 o1.2.2.2.2 hg) [0, 24, 25, 1, 23] rfl rfl rfl 26 [2, 3, 4, 5, 6, 7, 8, 9, 10, 11, 12, 13, 14, 15, 16, 17, 18, 19, 20, 21, 22] rfl rfl rfl rfl (by decide +kernel)
set_option maxHeartbeats 4000000 in
set_option maxRecDepth 20000 in
theorem Y_again (l : Launch) (E : ENV) (q0 : Nat) (u : List Nat) (τ : MS) (p1 : Int32) {o : Int32 × MS} (h : y_again τ p1 = some o) : CI l E yX12_again cX12_again 3 (some .boolean) 1 [.ref q0, .int p1] (WM E q0 u τ) (WM E q0 u o.2) o.1 := by
  unfold y_again at h
  obtain ⟨o1, hg, h⟩ := bd_some h
  have h := Option.some.inj h
  subst h
  exact CI.frame2 (kX12_again l E q0 (u.getD 0 0) (u.getD 1 0) (u.getD 2 0) (u.getD 3 0) (u.getD 4 0) (u.getD 5 0) (u.getD 6 0) (u.getD 7 0) (u.getD 8 0) (u.getD 9 0) (u.getD 10 0) (u.getD 11 0) (u.getD 12 0) (u.getD 13 0) (u.getD 14 0) (u.getD 15 0) (u.getD 16 0) (u.getD 17 0) (u.getD 18 0) (u.getD 19 0) (u.getD 20 0) (u.getD 21 0) (u.getD 22 0) (u.getD 23 0) (u.getD 24 0) (τ.1 9) (τ.1 24) (τ.1 22) (τ.1 14) (τ.1 19) (rdv τ.2.2 (u.getD 5 0) (u.getD 8 0)) (τ.1 11) (τ.1 20) (τ.1 6) (τ.1 25) (τ.1 15) (τ.1 10) (τ.1 2) (τ.1 4) (τ.1 1) (τ.1 5) (τ.1 0) (τ.1 3) (τ.1 18) (τ.1 13) (τ.1 17) (τ.1 23) (τ.1 7) (τ.1 16) (τ.1 12) (τ.1 21) (τ.1 8) (τ.2.1 8) (τ.2.1 10) (τ.2.1 9) (τ.2.1 12) p1 o1.1 o1.2.1 o1.2.2.1 o1.2.2.2 hg) [0, 24, 25, 23, 1] rfl rfl rfl 26 [2, 3, 4, 5, 6, 7, 8, 9, 10, 11, 12, 13, 14, 15, 16, 17, 18, 19, 20, 21, 22] rfl rfl rfl rfl (by decide +kernel)
set_option maxHeartbeats 4000000 in
set_option maxRecDepth 20000 in
theorem Y_count (l : Launch) (E : ENV) (q0 : Nat) (u : List Nat) (τ : MS) (p1 : Int32) {o : Int32 × MS} (h : y_count τ p1 = some o) : CI l E yX12_count cX12_count 4 (some .int) 2 [.ref q0, .int p1] (WM E q0 u τ) (WM E q0 u o.2) o.1 := by
  unfold y_count at h
  obtain ⟨o1, hg, h⟩ := bd_some h
  have h := Option.some.inj h
  subst h
  exact CI.frame2 (kX12_count l E q0 (u.getD 0 0) (u.getD 1 0) (u.getD 2 0) (u.getD 3 0) (u.getD 4 0) (u.getD 5 0) (u.getD 6 0) (u.getD 7 0) (u.getD 8 0) (u.getD 9 0) (u.getD 10 0) (u.getD 11 0) (u.getD 12 0) (u.getD 13 0) (u.getD 14 0) (u.getD 15 0) (u.getD 16 0) (u.getD 17 0) (u.getD 18 0) (u.getD 19 0) (u.getD 20 0) (u.getD 21 0) (u.getD 22 0) (u.getD 23 0) (u.getD 24 0) (τ.1 9) (τ.1 24) (τ.1 22) (τ.1 14) (τ.1 19) (rdv τ.2.2 (u.getD 5 0) (u.getD 8 0)) (τ.1 11) (τ.1 20) (τ.1 6) (τ.1 25) (τ.1 15) (τ.1 10) (τ.1 2) (τ.1 4) (τ.1 1) (τ.1 5) (τ.1 0) (τ.1 3) (τ.1 18) (τ.1 13) (τ.1 17) (τ.1 23) (τ.1 7) (τ.1 16) (τ.1 12) (τ.1 21) (τ.1 8) (τ.2.1 12) p1 o1.1 o1.2 hg) [0, 1] rfl rfl rfl 26 [2, 3, 4, 5, 6, 7, 8, 9, 10, 11, 12, 13, 14, 15, 16, 17, 18, 19, 20, 21, 22, 23, 24, 25] rfl rfl rfl rfl (by decide +kernel)
set_option maxHeartbeats 4000000 in
set_option maxRecDepth 20000 in
theorem Y_row (l : Launch) (E : ENV) (q0 : Nat) (u : List Nat) (τ : MS) (p1 : Int32) {o : Int32 × MS} (h : y_row τ p1 = some o) : CI l E yX12_row cX12_row 2 (some .int) 1 [.ref q0, .int p1] (WM E q0 u τ) (WM E q0 u o.2) o.1 := by
  unfold y_row at h
  obtain ⟨o1, hg, h⟩ := bd_some h
  have h := Option.some.inj h
  subst h
  exact CI.frame2 (kX12_row l E q0 (u.getD 0 0) (u.getD 1 0) (u.getD 2 0) (u.getD 3 0) (u.getD 4 0) (u.getD 5 0) (u.getD 6 0) (u.getD 7 0) (u.getD 8 0) (u.getD 9 0) (u.getD 10 0) (u.getD 11 0) (u.getD 12 0) (u.getD 13 0) (u.getD 14 0) (u.getD 15 0) (u.getD 16 0) (u.getD 17 0) (u.getD 18 0) (u.getD 19 0) (u.getD 20 0) (u.getD 21 0) (u.getD 22 0) (u.getD 23 0) (u.getD 24 0) (τ.1 9) (τ.1 24) (τ.1 22) (τ.1 14) (τ.1 19) (rdv τ.2.2 (u.getD 5 0) (u.getD 8 0)) (τ.1 11) (τ.1 20) (τ.1 6) (τ.1 25) (τ.1 15) (τ.1 10) (τ.1 2) (τ.1 4) (τ.1 1) (τ.1 5) (τ.1 0) (τ.1 3) (τ.1 18) (τ.1 13) (τ.1 17) (τ.1 23) (τ.1 7) (τ.1 16) (τ.1 12) (τ.1 21) (τ.1 8) (τ.2.1 16) p1 o1.1 o1.2 hg) [0, 7] rfl rfl rfl 26 [1, 2, 3, 4, 5, 6, 8, 9, 10, 11, 12, 13, 14, 15, 16, 17, 18, 19, 20, 21, 22, 23, 24, 25] rfl rfl rfl rfl (by decide +kernel)
