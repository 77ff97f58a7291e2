set_option maxHeartbeats 4000000 in
set_option maxRecDepth 20000 in
theorem Y_sign (l : Launch) (E : ENV) (q0 : Nat) (u : List Nat) (τ : MS) (p1 : Int32) {o : Int32 × MS} (h : y_sign τ p1 = some o) : CI l E yX12_sign cX12_sign 3 (some .int) 0 [.ref q0, .int p1] (WM E q0 u τ) (WM E q0 u o.2) o.1 := by
  unfold y_sign at h
  obtain ⟨o1, hg, h⟩ := bd_some h
  have h := Option.some.inj h
  subst h
  exact CI.frame2 (kX12_sign l E q0 (u.getD 0 0) (u.getD 1 0) (u.getD 2 0) (u.getD 3 0) (u.getD 4 0) (u.getD 5 0) (u.getD 6 0) (u.getD 7 0) (u.getD 8 0) (u.getD 9 0) (u.getD 10 0) (u.getD 11 0) (u.getD 12 0) (u.getD 13 0) (u.getD 14 0) (u.getD 15 0) (u.getD 16 0) (u.getD 17 0) (u.getD 18 0) (u.getD 19 0) (u.getD 20 0) (u.getD 21 0) (u.getD 22 0) (u.getD 23 0) (u.getD 24 0) (τ.1 9) (τ.1 24) (τ.1 22) (τ.1 14) (τ.1 19) (rdv τ.2.2 (u.getD 5 0) (u.getD 8 0)) (τ.1 11) (τ.1 20) (τ.1 6) (τ.1 25) (τ.1 15) (τ.1 10) (τ.1 2) (τ.1 4) (τ.1 1) (τ.1 5) (τ.1 0) (τ.1 3) (τ.1 18) (τ.1 13) (τ.1 17) (τ.1 23) (τ.1 7) (τ.1 16) (τ.1 12) (τ.1 21) (τ.1 8) (τ.2.1 18) p1 o1.1 o1.2.1 o1.2.2.1 o1.2.2.2 hg) [0, 6] rfl rfl rfl 26 [1, 2, 3, 4, 5, 7, 8, 9, 10, 11, 12, 13, 14, 15, 16, 17, 18, 19, 20, 21, 22, 23, 24, 25] rfl rfl rfl rfl (by decide +kernel)
set_option maxHeartbeats 4000000 in
set_option maxRecDepth 20000 in
theorem Y_end (l : Launch) (E : ENV) (q0 : Nat) (u : List Nat) (τ : MS) (p1 : Int32) {o : Int32 × MS} (h : y_end τ p1 = some o) : CI l E yX12_end cX12_end 2 (some .boolean) 1 [.ref q0, .int p1] (WM E q0 u τ) (WM E q0 u o.2) o.1 := by
  unfold y_end at h
  obtain ⟨o1, hg, h⟩ := bd_some h
  have h := Option.some.inj h
  subst h
  exact CI.frame2 (kX12_end l E q0 (u.getD 0 0) (u.getD 1 0) (u.getD 2 0) (u.getD 3 0) (u.getD 4 0) (u.getD 5 0) (u.getD 6 0) (u.getD 7 0) (u.getD 8 0) (u.getD 9 0) (u.getD 10 0) (u.getD 11 0) (u.getD 12 0) (u.getD 13 0) (u.getD 14 0) (u.getD 15 0) (u.getD 16 0) (u.getD 17 0) (u.getD 18 0) (u.getD 19 0) (u.getD 20 0) (u.getD 21 0) (u.getD 22 0) (u.getD 23 0) (u.getD 24 0) (τ.1 9) (τ.1 24) (τ.1 22) (τ.1 14) (τ.1 19) (rdv τ.2.2 (u.getD 5 0) (u.getD 8 0)) (τ.1 11) (τ.1 20) (τ.1 6) (τ.1 25) (τ.1 15) (τ.1 10) (τ.1 2) (τ.1 4) (τ.1 1) (τ.1 5) (τ.1 0) (τ.1 3) (τ.1 18) (τ.1 13) (τ.1 17) (τ.1 23) (τ.1 7) (τ.1 16) (τ.1 12) (τ.1 21) (τ.1 8) p1 o1.1 o1.2.1 o1.2.2 hg) [0] rfl rfl rfl 26 [1, 2, 3, 4, 5, 6, 7, 8, 9, 10, 11, 12, 13, 14, 15, 16, 17, 18, 19, 20, 21, 22, 23, 24, 25] rfl rfl rfl rfl (by decide +kernel)
set_option maxHeartbeats 4000000 in
set_option maxRecDepth 20000 in
theorem Y_town (l : Launch) (E : ENV) (q0 : Nat) (u : List Nat) (τ : MS) {o : Int32 × MS} (h : y_town τ = some o) : CI l E yX12_town cX12_town 4 (some .int) 3 [.ref q0] (WM E q0 u τ) (WM E q0 u o.2) o.1 := by
  unfold y_town at h
  obtain ⟨o1, hg, h⟩ := bd_some h
  have h := Option.some.inj h
  subst h
  exact CI.frame2 (kX12_town l E q0 (u.getD 0 0) (u.getD 1 0) (u.getD 2 0) (u.getD 3 0) (u.getD 4 0) (u.getD 5 0) (u.getD 6 0) (u.getD 7 0) (u.getD 8 0) (u.getD 9 0) (u.getD 10 0) (u.getD 11 0) (u.getD 12 0) (u.getD 13 0) (u.getD 14 0) (u.getD 15 0) (u.getD 16 0) (u.getD 17 0) (u.getD 18 0) (u.getD 19 0) (u.getD 20 0) (u.getD 21 0) (u.getD 22 0) (u.getD 23 0) (u.getD 24 0) (τ.1 9) (τ.1 24) (τ.1 22) (τ.1 14) (τ.1 19) τ.2.2 (τ.1 11) (τ.1 20) (τ.1 6) (τ.1 25) (τ.1 15) (τ.1 10) (τ.1 2) (τ.1 4) (τ.1 1) (τ.1 5) (τ.1 0) (τ.1 3) (τ.1 18) (τ.1 13) (τ.1 17) (τ.1 23) (τ.1 7) (τ.1 16) (τ.1 12) (τ.1 21) (τ.1 8) (τ.2.1 18) (τ.2.1 5) (τ.2.1 7) (τ.2.1 2) (τ.2.1 6) o1.1 o1.2.1 o1.2.2.1 o1.2.2.2.1 o1.2.2.2.2.1 o1.2.2.2.2.2.1 o1.2.2.2.2.2.2.1 o1.2.2.2.2.2.2.2.1 o1.2.2.2.2.2.2.2.2.1 o1.2.2.2.2.2.2.2.2.2.1 o1.2.2.2.2.2.2.2.2.2.2.1 o1.2.2.2.2.2.2.2.2.2.2.2.1 o1.2.2.2.2.2.2.2.2.2.2.2.2.1 o1.2.2.2.2.2.2.2.2.2.2.2.2.2.1 o1.2.2.2.2.2.2.2.2.2.2.2.2.2.2 hg) [0, 6, 8, 2, 3, 4] rfl rfl rfl 26 [1, 5, 7, 9, 10, 11, 12, 13, 14, 15, 16, 17, 18, 19, 20, 21, 22, 23, 24, 25] rfl rfl rfl rfl (by decide +kernel)
set_option maxHeartbeats 4000000 in
set_option maxRecDepth 20000 in
theorem Y_weather (l : Launch) (E : ENV) (q0 : Nat) (u : List Nat) (τ : MS) {o : Int32 × MS} (h : y_weather τ = some o) : CI l E yX12_weather cX12_weather 3 (some .int) 1 [.ref q0] (WM E q0 u τ) (WM E q0 u o.2) o.1 := by
  unfold y_weather at h
  obtain ⟨o1, hg, h⟩ := bd_some h
  have h := Option.some.inj h
  subst h
  exact CI.frame2 (kX12_weather l E q0 (u.getD 0 0) (u.getD 1 0) (u.getD 2 0) (u.getD 3 0) (u.getD 4 0) (u.getD 5 0) (u.getD 6 0) (u.getD 7 0) (u.getD 8 0) (u.getD 9 0) (u.getD 10 0) (u.getD 11 0) (u.getD 12 0) (u.getD 13 0) (u.getD 14 0) (u.getD 15 0) (u.getD 16 0) (u.getD 17 0) (u.getD 18 0) (u.getD 19 0) (u.getD 20 0) (u.getD 21 0) (u.getD 22 0) (u.getD 23 0) (u.getD 24 0) (τ.1 9) (τ.1 24) (τ.1 22) (τ.1 14) (τ.1 19) (rdv τ.2.2 (u.getD 5 0) (u.getD 8 0)) (τ.1 11) (τ.1 20) (τ.1 6) (τ.1 25) (τ.1 15) (τ.1 10) (τ.1 2) (τ.1 4) (τ.1 1) (τ.1 5) (τ.1 0) (τ.1 3) (τ.1 18) (τ.1 13) (τ.1 17) (τ.1 23) (τ.1 7) (τ.1 16) (τ.1 12) (τ.1 21) (τ.1 8) (τ.2.1 18) (τ.2.1 23) o1.1 o1.2.1 o1.2.2.1 o1.2.2.2.1 o1.2.2.2.2 hg) [0, 6, 5] rfl rfl rfl 26 [1, 2, 3, 4, 7, 8, 9, 10, 11, 12, 13, 14, 15, 16, 17, 18, 19, 20, 21, 22, 23, 24, 25] rfl rfl rfl rfl (by decide +kernel)
set_option maxHeartbeats 4000000 in
set_option maxRecDepth 20000 in
theorem Y_rule (l : Launch) (E : ENV) (q0 : Nat) (u : List Nat) (τ : MS) {o : Int32 × MS} (h : y_rule τ = some o) : CI l E yX12_rule cX12_rule 3 (some .int) 84 [.ref q0] (WM E q0 u τ) (WM E q0 u o.2) o.1 := by
  unfold y_rule at h
  obtain ⟨o1, hg, h⟩ := bd_some h
  have h := Option.some.inj h
  subst h
  exact CI.frame2 (kX12_rule l E q0 (u.getD 0 0) (u.getD 1 0) (u.getD 2 0) (u.getD 3 0) (u.getD 4 0) (u.getD 5 0) (u.getD 6 0) (u.getD 7 0) (u.getD 8 0) (u.getD 9 0) (u.getD 10 0) (u.getD 11 0) (u.getD 12 0) (u.getD 13 0) (u.getD 14 0) (u.getD 15 0) (u.getD 16 0) (u.getD 17 0) (u.getD 18 0) (u.getD 19 0) (u.getD 20 0) (u.getD 21 0) (u.getD 22 0) (u.getD 23 0) (u.getD 24 0) (τ.1 9) (τ.1 24) (τ.1 22) (τ.1 14) (τ.1 19) τ.2.2 (τ.1 11) (τ.1 20) (τ.1 6) (τ.1 25) (τ.1 15) (τ.1 10) (τ.1 2) (τ.1 4) (τ.1 1) (τ.1 5) (τ.1 0) (τ.1 3) (τ.1 18) (τ.1 13) (τ.1 17) (τ.1 23) (τ.1 7) (τ.1 16) (τ.1 12) (τ.1 21) (τ.1 8) (τ.2.1 18) (τ.2.1 7) (τ.2.1 23) (τ.2.1 17) o1.1 o1.2.1 o1.2.2.1 o1.2.2.2.1 o1.2.2.2.2.1 o1.2.2.2.2.2.1 o1.2.2.2.2.2.2.1 o1.2.2.2.2.2.2.2.1 o1.2.2.2.2.2.2.2.2.1 o1.2.2.2.2.2.2.2.2.2.1 o1.2.2.2.2.2.2.2.2.2.2 hg) [0, 6, 2, 5, 9] rfl rfl rfl 26 [1, 3, 4, 7, 8, 10, 11, 12, 13, 14, 15, 16, 17, 18, 19, 20, 21, 22, 23, 24, 25] rfl rfl rfl rfl (by decide +kernel)
set_option maxHeartbeats 4000000 in
set_option maxRecDepth 20000 in
theorem Y_winter (l : Launch) (E : ENV) (q0 : Nat) (u : List Nat) (τ : MS) (p1 p2 : Int32) {o : Int32 × MS} (h : y_winter τ p1 p2 = some o) : CI l E yX12_winter cX12_winter 7 (some .int) 1 [.ref q0, .int p1, .int p2] (WM E q0 u τ) (WM E q0 u o.2) o.1 := by
  unfold y_winter at h
  obtain ⟨o1, hg, h⟩ := bd_some h
  have h := Option.some.inj h
  subst h
  exact CI.frame2 (kX12_winter l E q0 (u.getD 0 0) (u.getD 1 0) (u.getD 2 0) (u.getD 3 0) (u.getD 4 0) (u.getD 5 0) (u.getD 6 0) (u.getD 7 0) (u.getD 8 0) (u.getD 9 0) (u.getD 10 0) (u.getD 11 0) (u.getD 12 0) (u.getD 13 0) (u.getD 14 0) (u.getD 15 0) (u.getD 16 0) (u.getD 17 0) (u.getD 18 0) (u.getD 19 0) (u.getD 20 0) (u.getD 21 0) (u.getD 22 0) (u.getD 23 0) (u.getD 24 0) (τ.1 9) (τ.1 24) (τ.1 22) (τ.1 14) (τ.1 19) (rdv τ.2.2 (u.getD 5 0) (u.getD 8 0)) (τ.1 11) (τ.1 20) (τ.1 6) (τ.1 25) (τ.1 15) (τ.1 10) (τ.1 2) (τ.1 4) (τ.1 1) (τ.1 5) (τ.1 0) (τ.1 3) (τ.1 18) (τ.1 13) (τ.1 17) (τ.1 23) (τ.1 7) (τ.1 16) (τ.1 12) (τ.1 21) (τ.1 8) (τ.2.1 23) p1 p2 o1.1 o1.2.1 o1.2.2.1 o1.2.2.2 hg) [0, 5] rfl rfl rfl 26 [1, 2, 3, 4, 6, 7, 8, 9, 10, 11, 12, 13, 14, 15, 16, 17, 18, 19, 20, 21, 22, 23, 24, 25] rfl rfl rfl rfl (by decide +kernel)
set_option maxHeartbeats 4000000 in
set_option maxRecDepth 20000 in
theorem Y_falls (l : Launch) (E : ENV) (q0 : Nat) (u : List Nat) (τ : MS) (p1 : Int32) {o : Int32 × MS} (h : y_falls τ p1 = some o) : CI l E yX12_falls cX12_falls 2 (some .int) 1 [.ref q0, .int p1] (WM E q0 u τ) (WM E q0 u o.2) o.1 := by
  unfold y_falls at h
  obtain ⟨o1, hg, h⟩ := bd_some h
  have h := Option.some.inj h
  subst h
  exact CI.frame2 (kX12_falls l E q0 (u.getD 0 0) (u.getD 1 0) (u.getD 2 0) (u.getD 3 0) (u.getD 4 0) (u.getD 5 0) (u.getD 6 0) (u.getD 7 0) (u.getD 8 0) (u.getD 9 0) (u.getD 10 0) (u.getD 11 0) (u.getD 12 0) (u.getD 13 0) (u.getD 14 0) (u.getD 15 0) (u.getD 16 0) (u.getD 17 0) (u.getD 18 0) (u.getD 19 0) (u.getD 20 0) (u.getD 21 0) (u.getD 22 0) (u.getD 23 0) (u.getD 24 0) (τ.1 9) (τ.1 24) (τ.1 22) (τ.1 14) (τ.1 19) (rdv τ.2.2 (u.getD 5 0) (u.getD 8 0)) (τ.1 11) (τ.1 20) (τ.1 6) (τ.1 25) (τ.1 15) (τ.1 10) (τ.1 2) (τ.1 4) (τ.1 1) (τ.1 5) (τ.1 0) (τ.1 3) (τ.1 18) (τ.1 13) (τ.1 17) (τ.1 23) (τ.1 7) (τ.1 16) (τ.1 12) (τ.1 21) (τ.1 8) (τ.2.1 23) p1 o1.1 o1.2 hg) [0, 5] rfl rfl rfl 26 [1, 2, 3, 4, 6, 7, 8, 9, 10, 11, 12, 13, 14, 15, 16, 17, 18, 19, 20, 21, 22, 23, 24, 25] rfl rfl rfl rfl (by decide +kernel)
set_option maxHeartbeats 4000000 in
set_option maxRecDepth 20000 in
theorem Y_of (l : Launch) (E : ENV) (q0 : Nat) (u : List Nat) (τ : MS) (p1 p2 : Int32) {o : Int32 × MS} (h : y_of τ p1 p2 = some o) : CI l E yX12_of cX12_of 3 (some .int) 2 [.ref q0, .int p1, .int p2] (WM E q0 u τ) (WM E q0 u o.2) o.1 := by
  unfold y_of at h
  obtain ⟨o1, hg, h⟩ := bd_some h
  have h := Option.some.inj h
  subst h
  exact CI.frame2 (kX12_of l E q0 (u.getD 0 0) (u.getD 1 0) (u.getD 2 0) (u.getD 3 0) (u.getD 4 0) (u.getD 5 0) (u.getD 6 0) (u.getD 7 0) (u.getD 8 0) (u.getD 9 0) (u.getD 10 0) (u.getD 11 0) (u.getD 12 0) (u.getD 13 0) (u.getD 14 0) (u.getD 15 0) (u.getD 16 0) (u.getD 17 0) (u.getD 18 0) (u.getD 19 0) (u.getD 20 0) (u.getD 21 0) (u.getD 22 0) (u.getD 23 0) (u.getD 24 0) (τ.1 9) (τ.1 24) (τ.1 22) (τ.1 14) (τ.1 19) (rdv τ.2.2 (u.getD 5 0) (u.getD 8 0)) (τ.1 11) (τ.1 20) (τ.1 6) (τ.1 25) (τ.1 15) (τ.1 10) (τ.1 2) (τ.1 4) (τ.1 1) (τ.1 5) (τ.1 0) (τ.1 3) (τ.1 18) (τ.1 13) (τ.1 17) (τ.1 23) (τ.1 7) (τ.1 16) (τ.1 12) (τ.1 21) (τ.1 8) (τ.2.1 12) (τ.2.1 6) (τ.2.1 2) (τ.2.1 7) p1 p2 o1.1 o1.2 hg) [0, 1, 4, 3, 2] rfl rfl rfl 26 [5, 6, 7, 8, 9, 10, 11, 12, 13, 14, 15, 16, 17, 18, 19, 20, 21, 22, 23, 24, 25] rfl rfl rfl rfl (by decide +kernel)
set_option maxHeartbeats 4000000 in
set_option maxRecDepth 20000 in
theorem Y_set (l : Launch) (E : ENV) (q0 : Nat) (u : List Nat) (τ : MS) (p1 p2 p3 : Int32) {o : Int32 × MS} (h : y_set τ p1 p2 p3 = some o) : CI l E yX12_set cX12_set 5 (some .int) 3 [.ref q0, .int p1, .int p2, .int p3] (WM E q0 u τ) (WM E q0 u o.2) o.1 := by
  unfold y_set at h
  obtain ⟨o1, hg, h⟩ := bd_some h
  have h := Option.some.inj h
  subst h
  exact CI.frame2 (kX12_set l E q0 (u.getD 0 0) (u.getD 1 0) (u.getD 2 0) (u.getD 3 0) (u.getD 4 0) (u.getD 5 0) (u.getD 6 0) (u.getD 7 0) (u.getD 8 0) (u.getD 9 0) (u.getD 10 0) (u.getD 11 0) (u.getD 12 0) (u.getD 13 0) (u.getD 14 0) (u.getD 15 0) (u.getD 16 0) (u.getD 17 0) (u.getD 18 0) (u.getD 19 0) (u.getD 20 0) (u.getD 21 0) (u.getD 22 0) (u.getD 23 0) (u.getD 24 0) (τ.1 9) (τ.1 24) (τ.1 22) (τ.1 14) (τ.1 19) (rdv τ.2.2 (u.getD 5 0) (u.getD 8 0)) (τ.1 11) (τ.1 20) (τ.1 6) (τ.1 25) (τ.1 15) (τ.1 10) (τ.1 2) (τ.1 4) (τ.1 1) (τ.1 5) (τ.1 0) (τ.1 3) (τ.1 18) (τ.1 13) (τ.1 17) (τ.1 23) (τ.1 7) (τ.1 16) (τ.1 12) (τ.1 21) (τ.1 8) (τ.2.1 12) (τ.2.1 6) (τ.2.1 2) (τ.2.1 7) p1 p2 p3 o1.1 o1.2.1 o1.2.2.1 o1.2.2.2.1 o1.2.2.2.2.1 o1.2.2.2.2.2 hg) [0, 1, 4, 3, 2] rfl rfl rfl 26 [5, 6, 7, 8, 9, 10, 11, 12, 13, 14, 15, 16, 17, 18, 19, 20, 21, 22, 23, 24, 25] rfl rfl rfl rfl (by decide +kernel)
set_option maxHeartbeats 4000000 in
set_option maxRecDepth 20000 in
theorem Y_sheet (l : Launch) (E : ENV) (q0 : Nat) (u : List Nat) (τ : MS) (p1 p2 p3 p4 : Int32) {o : Int32 × MS} (h : y_sheet τ p1 p2 p3 p4 = some o) : CI l E yX12_sheet cX12_sheet 9 (some .int) 1 [.ref q0, .int p1, .int p2, .int p3, .int p4] (WM E q0 u τ) (WM E q0 u o.2) o.1 := by
  unfold y_sheet at h
  obtain ⟨o1, hg, h⟩ := bd_some h
  have h := Option.some.inj h
  subst h
  exact CI.frame2 (kX12_sheet l E q0 (u.getD 0 0) (u.getD 1 0) (u.getD 2 0) (u.getD 3 0) (u.getD 4 0) (u.getD 5 0) (u.getD 6 0) (u.getD 7 0) (u.getD 8 0) (u.getD 9 0) (u.getD 10 0) (u.getD 11 0) (u.getD 12 0) (u.getD 13 0) (u.getD 14 0) (u.getD 15 0) (u.getD 16 0) (u.getD 17 0) (u.getD 18 0) (u.getD 19 0) (u.getD 20 0) (u.getD 21 0) (u.getD 22 0) (u.getD 23 0) (u.getD 24 0) (τ.1 9) (τ.1 24) (τ.1 22) (τ.1 14) (τ.1 19) (rdv τ.2.2 (u.getD 5 0) (u.getD 8 0)) (τ.1 11) (τ.1 20) (τ.1 6) (τ.1 25) (τ.1 15) (τ.1 10) (τ.1 2) (τ.1 4) (τ.1 1) (τ.1 5) (τ.1 0) (τ.1 3) (τ.1 18) (τ.1 13) (τ.1 17) (τ.1 23) (τ.1 7) (τ.1 16) (τ.1 12) (τ.1 21) (τ.1 8) (τ.2.1 12) p1 p2 p3 p4 o1.1 o1.2.1 o1.2.2 hg) [0, 1] rfl rfl rfl 26 [2, 3, 4, 5, 6, 7, 8, 9, 10, 11, 12, 13, 14, 15, 16, 17, 18, 19, 20, 21, 22, 23, 24, 25] rfl rfl rfl rfl (by decide +kernel)
