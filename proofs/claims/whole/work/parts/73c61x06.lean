set_option maxHeartbeats 4000000 in
set_option maxRecDepth 20000 in
theorem X_track (l : Launch) (E : ENV) (q0 : Nat) (u : List Nat) (σ : CS) (p1 p2 : Int32) {o : Int32 × CS} (h : x_track σ p1 p2 = some o) : CI l E yX11_track cX11_track 3 (some .int) 1 [.ref q0, .int p1, .int p2] (WC E q0 u σ) (WC E q0 u o.2) o.1 := by
  unfold x_track at h
  obtain ⟨o1, hg, h⟩ := bd_some h
  have h := Option.some.inj h
  subst h
  exact CI.frame2 (kX11_track l E q0 (u.getD 0 0) (u.getD 2 0) (u.getD 6 0) (u.getD 8 0) (u.getD 13 0) (u.getD 17 0) (u.getD 23 0) (u.getD 29 0) (u.getD 35 0) (u.getD 63 0) (u.getD 67 0) (u.getD 117 0) (u.getD 118 0) (u.getD 119 0) (u.getD 122 0) (u.getD 126 0) (u.getD 127 0) (u.getD 3 0) (u.getD 4 0) (u.getD 5 0) (u.getD 123 0) (u.getD 124 0) (u.getD 125 0) (σ.1 25) (σ.1 26) (σ.1 27) (σ.2.1 29) (σ.2.1 30) p1 p2 o1 hg) [0, 3, 123, 124, 125] rfl rfl rfl 137 [1, 2, 4, 5, 6, 7, 8, 9, 10, 11, 12, 13, 14, 15, 16, 17, 18, 19, 20, 21, 22, 23, 24, 25, 26, 27, 28, 29, 30, 31, 32, 33, 34, 35, 36, 37, 38, 39, 40, 41, 42, 43, 44, 45, 46, 47, 48, 49, 50, 51, 52, 53, 54, 55, 56, 57, 58, 59, 60, 61, 62, 63, 64, 65, 66, 67, 68, 69, 70, 71, 72, 73, 74, 75, 76, 77, 78, 79, 80, 81, 82, 83, 84, 85, 86, 87, 88, 89, 90, 91, 92, 93, 94, 95, 96, 97, 98, 99, 100, 101, 102, 103, 104, 105, 106, 107, 108, 109, 110, 111, 112, 113, 114, 115, 116, 117, 118, 119, 120, 121, 122, 126, 127, 128, 129, 130, 131, 132, 133, 134, 135, 136] rfl rfl rfl rfl (by decide +kernel)
set_option maxHeartbeats 4000000 in
set_option maxRecDepth 20000 in
theorem X_thaw (l : Launch) (E : ENV) (q0 : Nat) (u : List Nat) (σ : CS) {o : Int32 × CS} (h : x_thaw σ = some o) : CI l E yX11_thaw cX11_thaw 1 (some .int) 1 [.ref q0] (WC E q0 u σ) (WC E q0 u o.2) o.1 := by
  unfold x_thaw at h
  obtain ⟨o1, hg, h⟩ := bd_some h
  have h := Option.some.inj h
  subst h
  exact CI.frame2 (kX11_thaw l E q0 (u.getD 0 0) (u.getD 2 0) (u.getD 6 0) (u.getD 8 0) (u.getD 13 0) (u.getD 17 0) (u.getD 23 0) (u.getD 29 0) (u.getD 35 0) (u.getD 63 0) (u.getD 67 0) (u.getD 117 0) (u.getD 118 0) (u.getD 119 0) (u.getD 122 0) (u.getD 126 0) (u.getD 127 0) (u.getD 123 0) (u.getD 124 0) (u.getD 125 0) (σ.1 25) (σ.1 27) o1 hg) [0, 123] rfl rfl rfl 137 [1, 2, 3, 4, 5, 6, 7, 8, 9, 10, 11, 12, 13, 14, 15, 16, 17, 18, 19, 20, 21, 22, 23, 24, 25, 26, 27, 28, 29, 30, 31, 32, 33, 34, 35, 36, 37, 38, 39, 40, 41, 42, 43, 44, 45, 46, 47, 48, 49, 50, 51, 52, 53, 54, 55, 56, 57, 58, 59, 60, 61, 62, 63, 64, 65, 66, 67, 68, 69, 70, 71, 72, 73, 74, 75, 76, 77, 78, 79, 80, 81, 82, 83, 84, 85, 86, 87, 88, 89, 90, 91, 92, 93, 94, 95, 96, 97, 98, 99, 100, 101, 102, 103, 104, 105, 106, 107, 108, 109, 110, 111, 112, 113, 114, 115, 116, 117, 118, 119, 120, 121, 122, 124, 125, 126, 127, 128, 129, 130, 131, 132, 133, 134, 135, 136] rfl rfl rfl rfl (by decide +kernel)
set_option maxHeartbeats 4000000 in
set_option maxRecDepth 20000 in
theorem X_suspects (l : Launch) (E : ENV) (q0 : Nat) (u : List Nat) (σ : CS) (p1 : Int32) {o : Int32 × CS} (h : x_suspects σ p1 = some o) : CI l E yX11_suspects cX11_suspects 4 (some .int) 2 [.ref q0, .int p1] (WC E q0 u σ) (WC E q0 u o.2) o.1 := by
  unfold x_suspects at h
  obtain ⟨o1, hg, h⟩ := bd_some h
  have h := Option.some.inj h
  subst h
  exact CI.frame2 (kX11_suspects l E q0 (u.getD 0 0) (u.getD 2 0) (u.getD 6 0) (u.getD 8 0) (u.getD 13 0) (u.getD 17 0) (u.getD 23 0) (u.getD 29 0) (u.getD 35 0) (u.getD 63 0) (u.getD 67 0) (u.getD 117 0) (u.getD 118 0) (u.getD 119 0) (u.getD 122 0) (u.getD 126 0) (u.getD 127 0) (u.getD 3 0) (u.getD 4 0) (u.getD 5 0) (u.getD 123 0) (u.getD 124 0) (u.getD 125 0) (σ.1 25) (σ.1 26) (σ.1 27) (σ.2.1 31) (σ.2.1 30) (σ.2.1 29) p1 o1 hg) [0, 3, 123, 126, 125, 124] rfl rfl rfl 137 [1, 2, 4, 5, 6, 7, 8, 9, 10, 11, 12, 13, 14, 15, 16, 17, 18, 19, 20, 21, 22, 23, 24, 25, 26, 27, 28, 29, 30, 31, 32, 33, 34, 35, 36, 37, 38, 39, 40, 41, 42, 43, 44, 45, 46, 47, 48, 49, 50, 51, 52, 53, 54, 55, 56, 57, 58, 59, 60, 61, 62, 63, 64, 65, 66, 67, 68, 69, 70, 71, 72, 73, 74, 75, 76, 77, 78, 79, 80, 81, 82, 83, 84, 85, 86, 87, 88, 89, 90, 91, 92, 93, 94, 95, 96, 97, 98, 99, 100, 101, 102, 103, 104, 105, 106, 107, 108, 109, 110, 111, 112, 113, 114, 115, 116, 117, 118, 119, 120, 121, 122, 127, 128, 129, 130, 131, 132, 133, 134, 135, 136] rfl rfl rfl rfl (by decide +kernel)
set_option maxHeartbeats 4000000 in
set_option maxRecDepth 20000 in
theorem X_gang (l : Launch) (E : ENV) (q0 : Nat) (u : List Nat) (σ : CS) (p1 : Int32) {o : Int32 × CS} (h : x_gang σ p1 = some o) : CI l E yX11_gang cX11_gang 5 (some .int) 2 [.ref q0, .int p1] (WC E q0 u σ) (WC E q0 u o.2) o.1 := by
  unfold x_gang at h
  obtain ⟨o1, hg, h⟩ := bd_some h
  have h := Option.some.inj h
  subst h
  exact CI.frame2 (kX11_gang l E q0 (u.getD 0 0) (u.getD 2 0) (u.getD 6 0) (u.getD 8 0) (u.getD 13 0) (u.getD 17 0) (u.getD 23 0) (u.getD 29 0) (u.getD 35 0) (u.getD 63 0) (u.getD 67 0) (u.getD 117 0) (u.getD 118 0) (u.getD 119 0) (u.getD 122 0) (u.getD 126 0) (u.getD 127 0) (u.getD 123 0) (u.getD 124 0) (u.getD 125 0) (u.getD 3 0) (u.getD 4 0) (u.getD 5 0) (σ.1 25) (σ.1 27) (σ.2.1 31) (σ.2.1 30) (σ.2.1 29) (σ.1 26) (σ.2.1 25) p1 o1 hg) [0, 123, 126, 125, 124, 3, 128] rfl rfl rfl 137 [1, 2, 4, 5, 6, 7, 8, 9, 10, 11, 12, 13, 14, 15, 16, 17, 18, 19, 20, 21, 22, 23, 24, 25, 26, 27, 28, 29, 30, 31, 32, 33, 34, 35, 36, 37, 38, 39, 40, 41, 42, 43, 44, 45, 46, 47, 48, 49, 50, 51, 52, 53, 54, 55, 56, 57, 58, 59, 60, 61, 62, 63, 64, 65, 66, 67, 68, 69, 70, 71, 72, 73, 74, 75, 76, 77, 78, 79, 80, 81, 82, 83, 84, 85, 86, 87, 88, 89, 90, 91, 92, 93, 94, 95, 96, 97, 98, 99, 100, 101, 102, 103, 104, 105, 106, 107, 108, 109, 110, 111, 112, 113, 114, 115, 116, 117, 118, 119, 120, 121, 122, 127, 129, 130, 131, 132, 133, 134, 135, 136] rfl rfl rfl rfl (by decide +kernel)
set_option maxHeartbeats 4000000 in
set_option maxRecDepth 20000 in
theorem X_keep (l : Launch) (E : ENV) (q0 : Nat) (u : List Nat) (σ : CS) (p1 : Int32) {o : Int32 × CS} (h : x_keep σ p1 = some o) : CI l E yX11_keep cX11_keep 2 (some .boolean) 2 [.ref q0, .int p1] (WC E q0 u σ) (WC E q0 u o.2) o.1 := by
  unfold x_keep at h
  obtain ⟨o1, hg, h⟩ := bd_some h
  have h := Option.some.inj h
  subst h
  exact CI.frame2 (kX11_keep l E q0 (u.getD 0 0) (u.getD 2 0) (u.getD 6 0) (u.getD 8 0) (u.getD 13 0) (u.getD 17 0) (u.getD 23 0) (u.getD 29 0) (u.getD 35 0) (u.getD 63 0) (u.getD 67 0) (u.getD 117 0) (u.getD 118 0) (u.getD 119 0) (u.getD 122 0) (u.getD 126 0) (u.getD 127 0) (u.getD 128 0) (u.getD 132 0) (u.getD 18 0) (u.getD 22 0) (u.getD 129 0) (u.getD 130 0) (u.getD 131 0) (u.getD 19 0) (u.getD 20 0) (u.getD 21 0) (u.getD 3 0) (u.getD 4 0) (u.getD 5 0) (u.getD 133 0) (u.getD 134 0) (u.getD 135 0) (σ.1 25) (σ.1 8) (σ.1 10) (σ.1 12) (σ.1 9) (σ.2.2.1 1) (σ.1 11) (σ.2.2.2 5) (σ.2.2.2 4) (σ.2.2.2 3) (σ.2.1 12) (σ.2.1 11) (σ.2.1 10) (σ.1 26) (σ.2.1 6) p1 o1 hg) [0, 118, 18, 129, 19, 130, 131, 132, 20, 21, 22, 3, 119, 133, 134, 135, 136] rfl rfl rfl 137 [1, 2, 4, 5, 6, 7, 8, 9, 10, 11, 12, 13, 14, 15, 16, 17, 23, 24, 25, 26, 27, 28, 29, 30, 31, 32, 33, 34, 35, 36, 37, 38, 39, 40, 41, 42, 43, 44, 45, 46, 47, 48, 49, 50, 51, 52, 53, 54, 55, 56, 57, 58, 59, 60, 61, 62, 63, 64, 65, 66, 67, 68, 69, 70, 71, 72, 73, 74, 75, 76, 77, 78, 79, 80, 81, 82, 83, 84, 85, 86, 87, 88, 89, 90, 91, 92, 93, 94, 95, 96, 97, 98, 99, 100, 101, 102, 103, 104, 105, 106, 107, 108, 109, 110, 111, 112, 113, 114, 115, 116, 117, 120, 121, 122, 123, 124, 125, 126, 127, 128] rfl rfl rfl rfl (by decide +kernel)
set_option maxHeartbeats 4000000 in
set_option maxRecDepth 20000 in
theorem X_again (l : Launch) (E : ENV) (q0 : Nat) (u : List Nat) (σ : CS) (p1 : Int32) {o : Int32 × CS} (h : x_again σ p1 = some o) : CI l E yX11_again cX11_again 2 (some .boolean) 2 [.ref q0, .int p1] (WC E q0 u σ) (WC E q0 u o.2) o.1 := by
  unfold x_again at h
  obtain ⟨o1, hg, h⟩ := bd_some h
  have h := Option.some.inj h
  subst h
  exact CI.frame2 (kX11_again l E q0 (u.getD 0 0) (u.getD 2 0) (u.getD 6 0) (u.getD 8 0) (u.getD 13 0) (u.getD 17 0) (u.getD 23 0) (u.getD 29 0) (u.getD 35 0) (u.getD 63 0) (u.getD 67 0) (u.getD 117 0) (u.getD 118 0) (u.getD 119 0) (u.getD 122 0) (u.getD 126 0) (u.getD 127 0) (u.getD 3 0) (u.getD 4 0) (u.getD 5 0) (u.getD 18 0) (u.getD 22 0) (u.getD 128 0) (u.getD 132 0) (u.getD 19 0) (u.getD 20 0) (u.getD 21 0) (u.getD 129 0) (u.getD 130 0) (u.getD 131 0) (u.getD 68 0) (u.getD 133 0) (u.getD 134 0) (u.getD 135 0) (σ.1 25) (σ.2.1 6) (σ.1 26) (σ.1 8) (σ.1 10) (σ.1 12) (σ.1 9) (σ.1 11) (σ.2.2.1 1) (σ.2.1 12) (σ.2.1 11) (σ.2.1 10) (σ.2.2.2 5) (σ.2.2.2 4) (σ.2.2.2 3) (σ.1 3) (σ.1 2) p1 o1 hg) [0, 119, 3, 18, 118, 19, 129, 20, 21, 22, 130, 131, 132, 68, 133, 134, 135, 136] rfl rfl rfl 137 [1, 2, 4, 5, 6, 7, 8, 9, 10, 11, 12, 13, 14, 15, 16, 17, 23, 24, 25, 26, 27, 28, 29, 30, 31, 32, 33, 34, 35, 36, 37, 38, 39, 40, 41, 42, 43, 44, 45, 46, 47, 48, 49, 50, 51, 52, 53, 54, 55, 56, 57, 58, 59, 60, 61, 62, 63, 64, 65, 66, 67, 69, 70, 71, 72, 73, 74, 75, 76, 77, 78, 79, 80, 81, 82, 83, 84, 85, 86, 87, 88, 89, 90, 91, 92, 93, 94, 95, 96, 97, 98, 99, 100, 101, 102, 103, 104, 105, 106, 107, 108, 109, 110, 111, 112, 113, 114, 115, 116, 117, 120, 121, 122, 123, 124, 125, 126, 127, 128] rfl rfl rfl rfl (by decide +kernel)
set_option maxHeartbeats 4000000 in
set_option maxRecDepth 20000 in
theorem X_count (l : Launch) (E : ENV) (q0 : Nat) (u : List Nat) (σ : CS) (p1 : Int32) {o : Int32 × CS} (h : x_count σ p1 = some o) : CI l E yX11_count cX11_count 2 (some .int) 2 [.ref q0, .int p1] (WC E q0 u σ) (WC E q0 u o.2) o.1 := by
  unfold x_count at h
  obtain ⟨o1, hg, h⟩ := bd_some h
  have h := Option.some.inj h
  subst h
  exact CI.frame2 (kX11_count l E q0 (u.getD 0 0) (u.getD 2 0) (u.getD 6 0) (u.getD 8 0) (u.getD 13 0) (u.getD 17 0) (u.getD 23 0) (u.getD 29 0) (u.getD 35 0) (u.getD 63 0) (u.getD 67 0) (u.getD 117 0) (u.getD 118 0) (u.getD 119 0) (u.getD 122 0) (u.getD 126 0) (u.getD 127 0) (u.getD 1 0) (u.getD 123 0) (u.getD 124 0) (u.getD 125 0) (u.getD 68 0) (u.getD 7 0) (u.getD 18 0) (u.getD 22 0) (u.getD 19 0) (u.getD 20 0) (u.getD 21 0) (u.getD 3 0) (u.getD 4 0) (u.getD 5 0) (σ.1 25) (σ.1 22) (σ.1 24) (σ.1 23) (σ.1 27) (σ.1 3) (σ.1 2) (σ.1 34) (σ.1 33) (σ.1 8) (σ.1 10) (σ.1 12) (σ.1 9) (σ.1 11) (σ.2.1 10) (σ.2.1 11) (σ.2.1 12) (σ.1 26) p1 o1 hg) [0, 1, 123, 68, 7, 18, 19, 22, 21, 20, 3] rfl rfl rfl 137 [2, 4, 5, 6, 8, 9, 10, 11, 12, 13, 14, 15, 16, 17, 23, 24, 25, 26, 27, 28, 29, 30, 31, 32, 33, 34, 35, 36, 37, 38, 39, 40, 41, 42, 43, 44, 45, 46, 47, 48, 49, 50, 51, 52, 53, 54, 55, 56, 57, 58, 59, 60, 61, 62, 63, 64, 65, 66, 67, 69, 70, 71, 72, 73, 74, 75, 76, 77, 78, 79, 80, 81, 82, 83, 84, 85, 86, 87, 88, 89, 90, 91, 92, 93, 94, 95, 96, 97, 98, 99, 100, 101, 102, 103, 104, 105, 106, 107, 108, 109, 110, 111, 112, 113, 114, 115, 116, 117, 118, 119, 120, 121, 122, 124, 125, 126, 127, 128, 129, 130, 131, 132, 133, 134, 135, 136] rfl rfl rfl rfl (by decide +kernel)
set_option maxHeartbeats 4000000 in
set_option maxRecDepth 20000 in
theorem X_row (l : Launch) (E : ENV) (q0 : Nat) (u : List Nat) (σ : CS) (p1 : Int32) {o : Int32 × CS} (h : x_row σ p1 = some o) : CI l E yX11_row cX11_row 2 (some .int) 0 [.ref q0, .int p1] (WC E q0 u σ) (WC E q0 u o.2) o.1 := by
  unfold x_row at h
  obtain ⟨o1, hg, h⟩ := bd_some h
  have h := Option.some.inj h
  subst h
  exact CI.frame2 (kX11_row l E q0 (u.getD 0 0) (u.getD 2 0) (u.getD 6 0) (u.getD 8 0) (u.getD 13 0) (u.getD 17 0) (u.getD 23 0) (u.getD 29 0) (u.getD 35 0) (u.getD 63 0) (u.getD 67 0) (u.getD 117 0) (u.getD 118 0) (u.getD 119 0) (u.getD 122 0) (u.getD 126 0) (u.getD 127 0) (σ.1 25) (σ.2.1 25) p1 o1 hg) [0, 128] rfl rfl rfl 137 [1, 2, 3, 4, 5, 6, 7, 8, 9, 10, 11, 12, 13, 14, 15, 16, 17, 18, 19, 20, 21, 22, 23, 24, 25, 26, 27, 28, 29, 30, 31, 32, 33, 34, 35, 36, 37, 38, 39, 40, 41, 42, 43, 44, 45, 46, 47, 48, 49, 50, 51, 52, 53, 54, 55, 56, 57, 58, 59, 60, 61, 62, 63, 64, 65, 66, 67, 68, 69, 70, 71, 72, 73, 74, 75, 76, 77, 78, 79, 80, 81, 82, 83, 84, 85, 86, 87, 88, 89, 90, 91, 92, 93, 94, 95, 96, 97, 98, 99, 100, 101, 102, 103, 104, 105, 106, 107, 108, 109, 110, 111, 112, 113, 114, 115, 116, 117, 118, 119, 120, 121, 122, 123, 124, 125, 126, 127, 129, 130, 131, 132, 133, 134, 135, 136] rfl rfl rfl rfl (by decide +kernel)
