set_option maxHeartbeats 4000000 in
set_option maxRecDepth 20000 in
theorem Y_undo (l : Launch) (E : ENV) (q0 : Nat) (u : List Nat) (τ : MS) {o : Int32 × MS} (h : y_undo τ = some o) : CI l E yX12_undo cX12_undo 2 (some .int) 0 [.ref q0] (WM E q0 u τ) (WM E q0 u o.2) o.1 := by
  unfold y_undo at h
  obtain ⟨o1, hg, h⟩ := bd_some h
  have h := Option.some.inj h
  subst h
  exact CI.frame2 (kX12_undo l E q0 (u.getD 0 0) (u.getD 1 0) (u.getD 2 0) (u.getD 3 0) (u.getD 4 0) (u.getD 5 0) (u.getD 6 0) (u.getD 7 0) (u.getD 8 0) (u.getD 9 0) (u.getD 10 0) (u.getD 11 0) (u.getD 12 0) (u.getD 13 0) (u.getD 14 0) (u.getD 15 0) (u.getD 16 0) (u.getD 17 0) (u.getD 18 0) (u.getD 19 0) (u.getD 20 0) (u.getD 21 0) (u.getD 22 0) (u.getD 23 0) (u.getD 24 0) (τ.1 9) (τ.1 24) (τ.1 22) (τ.1 14) (τ.1 19) (rdv τ.2.2 (u.getD 5 0) (u.getD 8 0)) (τ.1 11) (τ.1 20) (τ.1 6) (τ.1 25) (τ.1 15) (τ.1 10) (τ.1 2) (τ.1 4) (τ.1 1) (τ.1 5) (τ.1 0) (τ.1 3) (τ.1 18) (τ.1 13) (τ.1 17) (τ.1 23) (τ.1 7) (τ.1 16) (τ.1 12) (τ.1 21) (τ.1 8) (τ.2.1 22) (τ.2.1 12) o1.1 o1.2.1 o1.2.2.1 o1.2.2.2 hg) [0, 11, 1] rfl rfl rfl 26 [2, 3, 4, 5, 6, 7, 8, 9, 10, 12, 13, 14, 15, 16, 17, 18, 19, 20, 21, 22, 23, 24, 25] rfl rfl rfl rfl (by decide +kernel)
set_option maxHeartbeats 4000000 in
set_option maxRecDepth 20000 in
theorem Y_ring (l : Launch) (E : ENV) (q0 : Nat) (u : List Nat) (τ : MS) {o : Int32 × MS} (h : y_ring τ = some o) : CI l E yX12_ring cX12_ring 3 (some .int) 13 [.ref q0] (WM E q0 u τ) (WM E q0 u o.2) o.1 := by
  unfold y_ring at h
  obtain ⟨o1, hg, h⟩ := bd_some h
  have h := Option.some.inj h
  subst h
  exact CI.frame2 (kX12_ring l E q0 (u.getD 0 0) (u.getD 1 0) (u.getD 2 0) (u.getD 3 0) (u.getD 4 0) (u.getD 5 0) (u.getD 6 0) (u.getD 7 0) (u.getD 8 0) (u.getD 9 0) (u.getD 10 0) (u.getD 11 0) (u.getD 12 0) (u.getD 13 0) (u.getD 14 0) (u.getD 15 0) (u.getD 16 0) (u.getD 17 0) (u.getD 18 0) (u.getD 19 0) (u.getD 20 0) (u.getD 21 0) (u.getD 22 0) (u.getD 23 0) (u.getD 24 0) (τ.1 9) (τ.1 24) (τ.1 22) (τ.1 14) (τ.1 19) (rdv τ.2.2 (u.getD 5 0) (u.getD 8 0)) (τ.1 11) (τ.1 20) (τ.1 6) (τ.1 25) (τ.1 15) (τ.1 10) (τ.1 2) (τ.1 4) (τ.1 1) (τ.1 5) (τ.1 0) (τ.1 3) (τ.1 18) (τ.1 13) (τ.1 17) (τ.1 23) (τ.1 7) (τ.1 16) (τ.1 12) (τ.1 21) (τ.1 8) (τ.2.1 15) (τ.2.1 12) (τ.2.1 4) (τ.2.1 16) o1.1 o1.2.1 o1.2.2.1 o1.2.2.2.1 o1.2.2.2.2.1 o1.2.2.2.2.2.1 o1.2.2.2.2.2.2 hg) [0, 14, 1, 15, 7] rfl rfl rfl 26 [2, 3, 4, 5, 6, 8, 9, 10, 11, 12, 13, 16, 17, 18, 19, 20, 21, 22, 23, 24, 25] rfl rfl rfl rfl (by decide +kernel)
set_option maxHeartbeats 4000000 in
set_option maxRecDepth 20000 in
theorem Y_cancel (l : Launch) (E : ENV) (q0 : Nat) (u : List Nat) (τ : MS) {o : Int32 × MS} (h : y_cancel τ = some o) : CI l E yX12_cancel cX12_cancel 2 (some .int) 13 [.ref q0] (WM E q0 u τ) (WM E q0 u o.2) o.1 := by
  unfold y_cancel at h
  obtain ⟨o1, hg, h⟩ := bd_some h
  have h := Option.some.inj h
  subst h
  exact CI.frame2 (kX12_cancel l E q0 (u.getD 0 0) (u.getD 1 0) (u.getD 2 0) (u.getD 3 0) (u.getD 4 0) (u.getD 5 0) (u.getD 6 0) (u.getD 7 0) (u.getD 8 0) (u.getD 9 0) (u.getD 10 0) (u.getD 11 0) (u.getD 12 0) (u.getD 13 0) (u.getD 14 0) (u.getD 15 0) (u.getD 16 0) (u.getD 17 0) (u.getD 18 0) (u.getD 19 0) (u.getD 20 0) (u.getD 21 0) (u.getD 22 0) (u.getD 23 0) (u.getD 24 0) (τ.1 9) (τ.1 24) (τ.1 22) (τ.1 14) (τ.1 19) (rdv τ.2.2 (u.getD 5 0) (u.getD 8 0)) (τ.1 11) (τ.1 20) (τ.1 6) (τ.1 25) (τ.1 15) (τ.1 10) (τ.1 2) (τ.1 4) (τ.1 1) (τ.1 5) (τ.1 0) (τ.1 3) (τ.1 18) (τ.1 13) (τ.1 17) (τ.1 23) (τ.1 7) (τ.1 16) (τ.1 12) (τ.1 21) (τ.1 8) (τ.2.1 15) (τ.2.1 12) (τ.2.1 4) (τ.2.1 22) o1.1 o1.2.1 o1.2.2.1 o1.2.2.2.1 o1.2.2.2.2.1 o1.2.2.2.2.2.1 o1.2.2.2.2.2.2.1 o1.2.2.2.2.2.2.2 hg) [0, 14, 1, 15, 11] rfl rfl rfl 26 [2, 3, 4, 5, 6, 7, 8, 9, 10, 12, 13, 16, 17, 18, 19, 20, 21, 22, 23, 24, 25] rfl rfl rfl rfl (by decide +kernel)
set_option maxHeartbeats 4000000 in
set_option maxRecDepth 20000 in
theorem Y_rings (l : Launch) (E : ENV) (q0 : Nat) (u : List Nat) (τ : MS) {o : Int32 × MS} (h : y_rings τ = some o) : CI l E yX12_rings cX12_rings 4 (some .int) 13 [.ref q0] (WM E q0 u τ) (WM E q0 u o.2) o.1 := by
  unfold y_rings at h
  obtain ⟨o1, hg, h⟩ := bd_some h
  have h := Option.some.inj h
  subst h
  exact CI.frame2 (kX12_rings l E q0 (u.getD 0 0) (u.getD 1 0) (u.getD 2 0) (u.getD 3 0) (u.getD 4 0) (u.getD 5 0) (u.getD 6 0) (u.getD 7 0) (u.getD 8 0) (u.getD 9 0) (u.getD 10 0) (u.getD 11 0) (u.getD 12 0) (u.getD 13 0) (u.getD 14 0) (u.getD 15 0) (u.getD 16 0) (u.getD 17 0) (u.getD 18 0) (u.getD 19 0) (u.getD 20 0) (u.getD 21 0) (u.getD 22 0) (u.getD 23 0) (u.getD 24 0) (τ.1 9) (τ.1 24) (τ.1 22) (τ.1 14) (τ.1 19) (rdv τ.2.2 (u.getD 5 0) (u.getD 8 0)) (τ.1 11) (τ.1 20) (τ.1 6) (τ.1 25) (τ.1 15) (τ.1 10) (τ.1 2) (τ.1 4) (τ.1 1) (τ.1 5) (τ.1 0) (τ.1 3) (τ.1 18) (τ.1 13) (τ.1 17) (τ.1 23) (τ.1 7) (τ.1 16) (τ.1 12) (τ.1 21) (τ.1 8) (τ.2.1 15) (τ.2.1 12) (τ.2.1 4) (τ.2.1 22) (τ.2.1 16) o1.1 o1.2.1 o1.2.2.1 o1.2.2.2.1 o1.2.2.2.2.1 o1.2.2.2.2.2.1 o1.2.2.2.2.2.2.1 o1.2.2.2.2.2.2.2.1 o1.2.2.2.2.2.2.2.2.1 o1.2.2.2.2.2.2.2.2.2 hg) [0, 14, 1, 15, 11, 7] rfl rfl rfl 26 [2, 3, 4, 5, 6, 8, 9, 10, 12, 13, 16, 17, 18, 19, 20, 21, 22, 23, 24, 25] rfl rfl rfl rfl (by decide +kernel)
set_option maxHeartbeats 4000000 in
set_option maxRecDepth 20000 in
theorem Y_net (l : Launch) (E : ENV) (q0 : Nat) (u : List Nat) (τ : MS) (p1 : Int32) {o : Int32 × MS} (h : y_net τ p1 = some o) : CI l E yX12_net cX12_net 2 (some .int) 2 [.ref q0, .int p1] (WM E q0 u τ) (WM E q0 u o.2) o.1 := by
  unfold y_net at h
  obtain ⟨o1, hg, h⟩ := bd_some h
  have h := Option.some.inj h
  subst h
  exact CI.frame2 (kX12_net l E q0 (u.getD 0 0) (u.getD 1 0) (u.getD 2 0) (u.getD 3 0) (u.getD 4 0) (u.getD 5 0) (u.getD 6 0) (u.getD 7 0) (u.getD 8 0) (u.getD 9 0) (u.getD 10 0) (u.getD 11 0) (u.getD 12 0) (u.getD 13 0) (u.getD 14 0) (u.getD 15 0) (u.getD 16 0) (u.getD 17 0) (u.getD 18 0) (u.getD 19 0) (u.getD 20 0) (u.getD 21 0) (u.getD 22 0) (u.getD 23 0) (u.getD 24 0) (τ.1 9) (τ.1 24) (τ.1 22) (τ.1 14) (τ.1 19) (rdv τ.2.2 (u.getD 5 0) (u.getD 8 0)) (τ.1 11) (τ.1 20) (τ.1 6) (τ.1 25) (τ.1 15) (τ.1 10) (τ.1 2) (τ.1 4) (τ.1 1) (τ.1 5) (τ.1 0) (τ.1 3) (τ.1 18) (τ.1 13) (τ.1 17) (τ.1 23) (τ.1 7) (τ.1 16) (τ.1 12) (τ.1 21) (τ.1 8) (τ.2.1 12) p1 o1.1 o1.2 hg) [0, 1] rfl rfl rfl 26 [2, 3, 4, 5, 6, 7, 8, 9, 10, 11, 12, 13, 14, 15, 16, 17, 18, 19, 20, 21, 22, 23, 24, 25] rfl rfl rfl rfl (by decide +kernel)
set_option maxHeartbeats 4000000 in
set_option maxRecDepth 20000 in
theorem Y_least (l : Launch) (E : ENV) (q0 : Nat) (u : List Nat) (τ : MS) {o : Int32 × MS} (h : y_least τ = some o) : CI l E yX12_least cX12_least 3 (some .int) 2 [.ref q0] (WM E q0 u τ) (WM E q0 u o.2) o.1 := by
  unfold y_least at h
  obtain ⟨o1, hg, h⟩ := bd_some h
  have h := Option.some.inj h
  subst h
  exact CI.frame2 (kX12_least l E q0 (u.getD 0 0) (u.getD 1 0) (u.getD 2 0) (u.getD 3 0) (u.getD 4 0) (u.getD 5 0) (u.getD 6 0) (u.getD 7 0) (u.getD 8 0) (u.getD 9 0) (u.getD 10 0) (u.getD 11 0) (u.getD 12 0) (u.getD 13 0) (u.getD 14 0) (u.getD 15 0) (u.getD 16 0) (u.getD 17 0) (u.getD 18 0) (u.getD 19 0) (u.getD 20 0) (u.getD 21 0) (u.getD 22 0) (u.getD 23 0) (u.getD 24 0) (τ.1 9) (τ.1 24) (τ.1 22) (τ.1 14) (τ.1 19) (rdv τ.2.2 (u.getD 5 0) (u.getD 8 0)) (τ.1 11) (τ.1 20) (τ.1 6) (τ.1 25) (τ.1 15) (τ.1 10) (τ.1 2) (τ.1 4) (τ.1 1) (τ.1 5) (τ.1 0) (τ.1 3) (τ.1 18) (τ.1 13) (τ.1 17) (τ.1 23) (τ.1 7) (τ.1 16) (τ.1 12) (τ.1 21) (τ.1 8) (τ.2.1 12) (τ.2.1 16) o1.1 o1.2.1 o1.2.2.1 o1.2.2.2 hg) [0, 1, 7] rfl rfl rfl 26 [2, 3, 4, 5, 6, 8, 9, 10, 11, 12, 13, 14, 15, 16, 17, 18, 19, 20, 21, 22, 23, 24, 25] rfl rfl rfl rfl (by decide +kernel)
set_option maxHeartbeats 4000000 in
set_option maxRecDepth 20000 in
theorem Y_even (l : Launch) (E : ENV) (q0 : Nat) (u : List Nat) (τ : MS) {o : Int32 × MS} (h : y_even τ = some o) : CI l E yX12_even cX12_even 6 (some .int) 2 [.ref q0] (WM E q0 u τ) (WM E q0 u o.2) o.1 := by
  unfold y_even at h
  obtain ⟨o1, hg, h⟩ := bd_some h
  have h := Option.some.inj h
  subst h
  exact CI.frame2 (kX12_even l E q0 (u.getD 0 0) (u.getD 1 0) (u.getD 2 0) (u.getD 3 0) (u.getD 4 0) (u.getD 5 0) (u.getD 6 0) (u.getD 7 0) (u.getD 8 0) (u.getD 9 0) (u.getD 10 0) (u.getD 11 0) (u.getD 12 0) (u.getD 13 0) (u.getD 14 0) (u.getD 15 0) (u.getD 16 0) (u.getD 17 0) (u.getD 18 0) (u.getD 19 0) (u.getD 20 0) (u.getD 21 0) (u.getD 22 0) (u.getD 23 0) (u.getD 24 0) (τ.1 9) (τ.1 24) (τ.1 22) (τ.1 14) (τ.1 19) (rdv τ.2.2 (u.getD 5 0) (u.getD 8 0)) (τ.1 11) (τ.1 20) (τ.1 6) (τ.1 25) (τ.1 15) (τ.1 10) (τ.1 2) (τ.1 4) (τ.1 1) (τ.1 5) (τ.1 0) (τ.1 3) (τ.1 18) (τ.1 13) (τ.1 17) (τ.1 23) (τ.1 7) (τ.1 16) (τ.1 12) (τ.1 21) (τ.1 8) (τ.2.1 22) (τ.2.1 12) (τ.2.1 11) (τ.2.1 16) o1.1 o1.2.1 o1.2.2.1 o1.2.2.2.1 o1.2.2.2.2.1 o1.2.2.2.2.2.1 o1.2.2.2.2.2.2.1 o1.2.2.2.2.2.2.2 hg) [0, 11, 1, 16, 7] rfl rfl rfl 26 [2, 3, 4, 5, 6, 8, 9, 10, 12, 13, 14, 15, 17, 18, 19, 20, 21, 22, 23, 24, 25] rfl rfl rfl rfl (by decide +kernel)
set_option maxHeartbeats 4000000 in
set_option maxRecDepth 20000 in
theorem Y_debtor (l : Launch) (E : ENV) (q0 : Nat) (u : List Nat) (τ : MS) {o : Int32 × MS} (h : y_debtor τ = some o) : CI l E yX12_debtor cX12_debtor 4 (some .int) 2 [.ref q0] (WM E q0 u τ) (WM E q0 u o.2) o.1 := by
  unfold y_debtor at h
  obtain ⟨o1, hg, h⟩ := bd_some h
  have h := Option.some.inj h
  subst h
  exact CI.frame2 (kX12_debtor l E q0 (u.getD 0 0) (u.getD 1 0) (u.getD 2 0) (u.getD 3 0) (u.getD 4 0) (u.getD 5 0) (u.getD 6 0) (u.getD 7 0) (u.getD 8 0) (u.getD 9 0) (u.getD 10 0) (u.getD 11 0) (u.getD 12 0) (u.getD 13 0) (u.getD 14 0) (u.getD 15 0) (u.getD 16 0) (u.getD 17 0) (u.getD 18 0) (u.getD 19 0) (u.getD 20 0) (u.getD 21 0) (u.getD 22 0) (u.getD 23 0) (u.getD 24 0) (τ.1 9) (τ.1 24) (τ.1 22) (τ.1 14) (τ.1 19) (rdv τ.2.2 (u.getD 5 0) (u.getD 8 0)) (τ.1 11) (τ.1 20) (τ.1 6) (τ.1 25) (τ.1 15) (τ.1 10) (τ.1 2) (τ.1 4) (τ.1 1) (τ.1 5) (τ.1 0) (τ.1 3) (τ.1 18) (τ.1 13) (τ.1 17) (τ.1 23) (τ.1 7) (τ.1 16) (τ.1 12) (τ.1 21) (τ.1 8) (τ.2.1 12) (τ.2.1 16) o1.1 o1.2.1 o1.2.2.1 o1.2.2.2 hg) [0, 1, 7] rfl rfl rfl 26 [2, 3, 4, 5, 6, 8, 9, 10, 11, 12, 13, 14, 15, 16, 17, 18, 19, 20, 21, 22, 23, 24, 25] rfl rfl rfl rfl (by decide +kernel)
set_option maxHeartbeats 4000000 in
set_option maxRecDepth 20000 in
theorem Y_june (l : Launch) (E : ENV) (q0 : Nat) (u : List Nat) (τ : MS) {o : Int32 × MS} (h : y_june τ = some o) : CI l E yX12_june cX12_june 2 (some .int) 2 [.ref q0] (WM E q0 u τ) (WM E q0 u o.2) o.1 := by
  unfold y_june at h
  obtain ⟨o1, hg, h⟩ := bd_some h
  have h := Option.some.inj h
  subst h
  exact CI.frame2 (kX12_june l E q0 (u.getD 0 0) (u.getD 1 0) (u.getD 2 0) (u.getD 3 0) (u.getD 4 0) (u.getD 5 0) (u.getD 6 0) (u.getD 7 0) (u.getD 8 0) (u.getD 9 0) (u.getD 10 0) (u.getD 11 0) (u.getD 12 0) (u.getD 13 0) (u.getD 14 0) (u.getD 15 0) (u.getD 16 0) (u.getD 17 0) (u.getD 18 0) (u.getD 19 0) (u.getD 20 0) (u.getD 21 0) (u.getD 22 0) (u.getD 23 0) (u.getD 24 0) (τ.1 9) (τ.1 24) (τ.1 22) (τ.1 14) (τ.1 19) (rdv τ.2.2 (u.getD 5 0) (u.getD 8 0)) (τ.1 11) (τ.1 20) (τ.1 6) (τ.1 25) (τ.1 15) (τ.1 10) (τ.1 2) (τ.1 4) (τ.1 1) (τ.1 5) (τ.1 0) (τ.1 3) (τ.1 18) (τ.1 13) (τ.1 17) (τ.1 23) (τ.1 7) (τ.1 16) (τ.1 12) (τ.1 21) (τ.1 8) (τ.2.1 12) (τ.2.1 16) o1.1 o1.2.1 o1.2.2.1 o1.2.2.2 hg) [0, 1, 7] rfl rfl rfl 26 [2, 3, 4, 5, 6, 8, 9, 10, 11, 12, 13, 14, 15, 16, 17, 18, 19, 20, 21, 22, 23, 24, 25] rfl rfl rfl rfl (by decide +kernel)
set_option maxHeartbeats 4000000 in
set_option maxRecDepth 20000 in
theorem Y_hay (l : Launch) (E : ENV) (q0 : Nat) (u : List Nat) (τ : MS) (p1 : Int32) {o : Int32 × MS} (h : y_hay τ p1 = some o) : CI l E yX12_hay cX12_hay 5 (some .int) 3 [.ref q0, .int p1] (WM E q0 u τ) (WM E q0 u o.2) o.1 := by
  unfold y_hay at h
  obtain ⟨o1, hg, h⟩ := bd_some h
  have h := Option.some.inj h
  subst h
  exact CI.frame2 (kX12_hay l E q0 (u.getD 0 0) (u.getD 1 0) (u.getD 2 0) (u.getD 3 0) (u.getD 4 0) (u.getD 5 0) (u.getD 6 0) (u.getD 7 0) (u.getD 8 0) (u.getD 9 0) (u.getD 10 0) (u.getD 11 0) (u.getD 12 0) (u.getD 13 0) (u.getD 14 0) (u.getD 15 0) (u.getD 16 0) (u.getD 17 0) (u.getD 18 0) (u.getD 19 0) (u.getD 20 0) (u.getD 21 0) (u.getD 22 0) (u.getD 23 0) (u.getD 24 0) (τ.1 9) (τ.1 24) (τ.1 22) (τ.1 14) (τ.1 19) (rdv τ.2.2 (u.getD 5 0) (u.getD 8 0)) (τ.1 11) (τ.1 20) (τ.1 6) (τ.1 25) (τ.1 15) (τ.1 10) (τ.1 2) (τ.1 4) (τ.1 1) (τ.1 5) (τ.1 0) (τ.1 3) (τ.1 18) (τ.1 13) (τ.1 17) (τ.1 23) (τ.1 7) (τ.1 16) (τ.1 12) (τ.1 21) (τ.1 8) (τ.2.1 24) (τ.2.1 12) (τ.2.1 6) (τ.2.1 16) p1 o1.1 o1.2.1 o1.2.2.1 o1.2.2.2.1 o1.2.2.2.2 hg) [0, 17, 1, 4, 7] rfl rfl rfl 26 [2, 3, 5, 6, 8, 9, 10, 11, 12, 13, 14, 15, 16, 18, 19, 20, 21, 22, 23, 24, 25] rfl rfl rfl rfl (by decide +kernel)
