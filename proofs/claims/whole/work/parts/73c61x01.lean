set_option maxHeartbeats 4000000 in
set_option maxRecDepth 20000 in
theorem X_sign (l : Launch) (E : ENV) (q0 : Nat) (u : List Nat) (σ : CS) (p1 : Int32) {o : Int32 × CS} (h : x_sign σ p1 = some o) : CI l E yX11_sign cX11_sign 2 (some .int) 1 [.ref q0, .int p1] (WC E q0 u σ) (WC E q0 u o.2) o.1 := by
  unfold x_sign at h
  obtain ⟨o1, hg, h⟩ := bd_some h
  have h := Option.some.inj h
  subst h
  exact CI.frame2 (kX11_sign l E q0 (u.getD 0 0) (u.getD 2 0) (u.getD 6 0) (u.getD 8 0) (u.getD 13 0) (u.getD 17 0) (u.getD 23 0) (u.getD 29 0) (u.getD 35 0) (u.getD 63 0) (u.getD 67 0) (u.getD 117 0) (u.getD 118 0) (u.getD 119 0) (u.getD 122 0) (u.getD 126 0) (u.getD 127 0) (u.getD 1 0) (σ.1 25) (σ.1 22) (σ.1 24) (σ.1 23) (σ.2.1 24) p1 o1 hg) [0, 1, 2] rfl rfl rfl 137 [3, 4, 5, 6, 7, 8, 9, 10, 11, 12, 13, 14, 15, 16, 17, 18, 19, 20, 21, 22, 23, 24, 25, 26, 27, 28, 29, 30, 31, 32, 33, 34, 35, 36, 37, 38, 39, 40, 41, 42, 43, 44, 45, 46, 47, 48, 49, 50, 51, 52, 53, 54, 55, 56, 57, 58, 59, 60, 61, 62, 63, 64, 65, 66, 67, 68, 69, 70, 71, 72, 73, 74, 75, 76, 77, 78, 79, 80, 81, 82, 83, 84, 85, 86, 87, 88, 89, 90, 91, 92, 93, 94, 95, 96, 97, 98, 99, 100, 101, 102, 103, 104, 105, 106, 107, 108, 109, 110, 111, 112, 113, 114, 115, 116, 117, 118, 119, 120, 121, 122, 123, 124, 125, 126, 127, 128, 129, 130, 131, 132, 133, 134, 135, 136] rfl rfl rfl rfl (by decide +kernel)
set_option maxHeartbeats 4000000 in
set_option maxRecDepth 20000 in
theorem X_end (l : Launch) (E : ENV) (q0 : Nat) (u : List Nat) (σ : CS) (p1 : Int32) {o : Int32 × CS} (h : x_end σ p1 = some o) : CI l E yX11_end cX11_end 2 (some .boolean) 1 [.ref q0, .int p1] (WC E q0 u σ) (WC E q0 u o.2) o.1 := by
  unfold x_end at h
  obtain ⟨o1, hg, h⟩ := bd_some h
  have h := Option.some.inj h
  subst h
  exact CI.frame2 (kX11_end l E q0 (u.getD 0 0) (u.getD 2 0) (u.getD 6 0) (u.getD 8 0) (u.getD 13 0) (u.getD 17 0) (u.getD 23 0) (u.getD 29 0) (u.getD 35 0) (u.getD 63 0) (u.getD 67 0) (u.getD 117 0) (u.getD 118 0) (u.getD 119 0) (u.getD 122 0) (u.getD 126 0) (u.getD 127 0) (u.getD 1 0) (σ.1 25) (σ.1 22) (σ.1 24) (σ.1 23) p1 o1 hg) [0, 1] rfl rfl rfl 137 [2, 3, 4, 5, 6, 7, 8, 9, 10, 11, 12, 13, 14, 15, 16, 17, 18, 19, 20, 21, 22, 23, 24, 25, 26, 27, 28, 29, 30, 31, 32, 33, 34, 35, 36, 37, 38, 39, 40, 41, 42, 43, 44, 45, 46, 47, 48, 49, 50, 51, 52, 53, 54, 55, 56, 57, 58, 59, 60, 61, 62, 63, 64, 65, 66, 67, 68, 69, 70, 71, 72, 73, 74, 75, 76, 77, 78, 79, 80, 81, 82, 83, 84, 85, 86, 87, 88, 89, 90, 91, 92, 93, 94, 95, 96, 97, 98, 99, 100, 101, 102, 103, 104, 105, 106, 107, 108, 109, 110, 111, 112, 113, 114, 115, 116, 117, 118, 119, 120, 121, 122, 123, 124, 125, 126, 127, 128, 129, 130, 131, 132, 133, 134, 135, 136] rfl rfl rfl rfl (by decide +kernel)
set_option maxHeartbeats 4000000 in
set_option maxRecDepth 20000 in
theorem X_town (l : Launch) (E : ENV) (q0 : Nat) (u : List Nat) (σ : CS) {o : Int32 × CS} (h : x_town σ = some o) : CI l E yX11_town cX11_town 2 (some .int) 6 [.ref q0] (WC E q0 u σ) (WC E q0 u o.2) o.1 := by
  unfold x_town at h
  obtain ⟨o1, hg, h⟩ := bd_some h
  have h := Option.some.inj h
  subst h
  exact CI.frame2 (kX11_town l E q0 (u.getD 0 0) (u.getD 2 0) (u.getD 6 0) (u.getD 8 0) (u.getD 13 0) (u.getD 17 0) (u.getD 23 0) (u.getD 29 0) (u.getD 35 0) (u.getD 63 0) (u.getD 67 0) (u.getD 117 0) (u.getD 118 0) (u.getD 119 0) (u.getD 122 0) (u.getD 126 0) (u.getD 127 0) (u.getD 3 0) (u.getD 4 0) (u.getD 5 0) (u.getD 1 0) (u.getD 68 0) (σ.1 25) (σ.1 26) (σ.1 22) (σ.1 24) (σ.1 23) (σ.2.1 28) (σ.2.1 26) (σ.2.1 27) (σ.2.1 24) (σ.1 3) (σ.1 2) o1 hg) [0, 3, 1, 4, 5, 6, 2, 68] rfl rfl rfl 137 [7, 8, 9, 10, 11, 12, 13, 14, 15, 16, 17, 18, 19, 20, 21, 22, 23, 24, 25, 26, 27, 28, 29, 30, 31, 32, 33, 34, 35, 36, 37, 38, 39, 40, 41, 42, 43, 44, 45, 46, 47, 48, 49, 50, 51, 52, 53, 54, 55, 56, 57, 58, 59, 60, 61, 62, 63, 64, 65, 66, 67, 69, 70, 71, 72, 73, 74, 75, 76, 77, 78, 79, 80, 81, 82, 83, 84, 85, 86, 87, 88, 89, 90, 91, 92, 93, 94, 95, 96, 97, 98, 99, 100, 101, 102, 103, 104, 105, 106, 107, 108, 109, 110, 111, 112, 113, 114, 115, 116, 117, 118, 119, 120, 121, 122, 123, 124, 125, 126, 127, 128, 129, 130, 131, 132, 133, 134, 135, 136] rfl rfl rfl rfl (by decide +kernel)
set_option maxHeartbeats 4000000 in
set_option maxRecDepth 20000 in
theorem X_weather (l : Launch) (E : ENV) (q0 : Nat) (u : List Nat) (σ : CS) {o : Int32 × CS} (h : x_weather σ = some o) : CI l E yX11_weather cX11_weather 2 (some .int) 3 [.ref q0] (WC E q0 u σ) (WC E q0 u o.2) o.1 := by
  unfold x_weather at h
  obtain ⟨o1, hg, h⟩ := bd_some h
  have h := Option.some.inj h
  subst h
  exact CI.frame2 (kX11_weather l E q0 (u.getD 0 0) (u.getD 2 0) (u.getD 6 0) (u.getD 8 0) (u.getD 13 0) (u.getD 17 0) (u.getD 23 0) (u.getD 29 0) (u.getD 35 0) (u.getD 63 0) (u.getD 67 0) (u.getD 117 0) (u.getD 118 0) (u.getD 119 0) (u.getD 122 0) (u.getD 126 0) (u.getD 127 0) (u.getD 7 0) (u.getD 1 0) (σ.1 25) (σ.1 34) (σ.1 33) (σ.1 22) (σ.1 24) (σ.1 23) (σ.2.1 36) (σ.2.1 24) o1 hg) [0, 7, 1, 8, 2] rfl rfl rfl 137 [3, 4, 5, 6, 9, 10, 11, 12, 13, 14, 15, 16, 17, 18, 19, 20, 21, 22, 23, 24, 25, 26, 27, 28, 29, 30, 31, 32, 33, 34, 35, 36, 37, 38, 39, 40, 41, 42, 43, 44, 45, 46, 47, 48, 49, 50, 51, 52, 53, 54, 55, 56, 57, 58, 59, 60, 61, 62, 63, 64, 65, 66, 67, 68, 69, 70, 71, 72, 73, 74, 75, 76, 77, 78, 79, 80, 81, 82, 83, 84, 85, 86, 87, 88, 89, 90, 91, 92, 93, 94, 95, 96, 97, 98, 99, 100, 101, 102, 103, 104, 105, 106, 107, 108, 109, 110, 111, 112, 113, 114, 115, 116, 117, 118, 119, 120, 121, 122, 123, 124, 125, 126, 127, 128, 129, 130, 131, 132, 133, 134, 135, 136] rfl rfl rfl rfl (by decide +kernel)
set_option maxHeartbeats 4000000 in
set_option maxRecDepth 20000 in
theorem X_rule (l : Launch) (E : ENV) (q0 : Nat) (u : List Nat) (σ : CS) {o : Int32 × CS} (h : x_rule σ = some o) : CI l E yX11_rule cX11_rule 2 (some .int) 36 [.ref q0] (WC E q0 u σ) (WC E q0 u o.2) o.1 := by
  unfold x_rule at h
  obtain ⟨o1, hg, h⟩ := bd_some h
  have h := Option.some.inj h
  subst h
  exact CI.frame2 (kX11_rule l E q0 (u.getD 0 0) (u.getD 2 0) (u.getD 6 0) (u.getD 8 0) (u.getD 13 0) (u.getD 17 0) (u.getD 23 0) (u.getD 29 0) (u.getD 35 0) (u.getD 63 0) (u.getD 67 0) (u.getD 117 0) (u.getD 118 0) (u.getD 119 0) (u.getD 122 0) (u.getD 126 0) (u.getD 127 0) (u.getD 9 0) (u.getD 10 0) (u.getD 11 0) (u.getD 12 0) (u.getD 1 0) (σ.1 25) (σ.1 19) (σ.1 18) (σ.1 22) (σ.1 24) (σ.1 23) (σ.2.1 18) (σ.2.1 17) (σ.2.1 24) o1 hg) [0, 9, 1, 11, 10, 2] rfl rfl rfl 137 [3, 4, 5, 6, 7, 8, 12, 13, 14, 15, 16, 17, 18, 19, 20, 21, 22, 23, 24, 25, 26, 27, 28, 29, 30, 31, 32, 33, 34, 35, 36, 37, 38, 39, 40, 41, 42, 43, 44, 45, 46, 47, 48, 49, 50, 51, 52, 53, 54, 55, 56, 57, 58, 59, 60, 61, 62, 63, 64, 65, 66, 67, 68, 69, 70, 71, 72, 73, 74, 75, 76, 77, 78, 79, 80, 81, 82, 83, 84, 85, 86, 87, 88, 89, 90, 91, 92, 93, 94, 95, 96, 97, 98, 99, 100, 101, 102, 103, 104, 105, 106, 107, 108, 109, 110, 111, 112, 113, 114, 115, 116, 117, 118, 119, 120, 121, 122, 123, 124, 125, 126, 127, 128, 129, 130, 131, 132, 133, 134, 135, 136] rfl rfl rfl rfl (by decide +kernel)
set_option maxHeartbeats 4000000 in
set_option maxRecDepth 20000 in
theorem X_winter (l : Launch) (E : ENV) (q0 : Nat) (u : List Nat) (σ : CS) (p1 p2 : Int32) {o : Int32 × CS} (h : x_winter σ p1 p2 = some o) : CI l E yX11_winter cX11_winter 3 (some .int) 2 [.ref q0, .int p1, .int p2] (WC E q0 u σ) (WC E q0 u o.2) o.1 := by
  unfold x_winter at h
  obtain ⟨o1, hg, h⟩ := bd_some h
  have h := Option.some.inj h
  subst h
  exact CI.frame2 (kX11_winter l E q0 (u.getD 0 0) (u.getD 2 0) (u.getD 6 0) (u.getD 8 0) (u.getD 13 0) (u.getD 17 0) (u.getD 23 0) (u.getD 29 0) (u.getD 35 0) (u.getD 63 0) (u.getD 67 0) (u.getD 117 0) (u.getD 118 0) (u.getD 119 0) (u.getD 122 0) (u.getD 126 0) (u.getD 127 0) (u.getD 7 0) (σ.1 25) (σ.1 34) (σ.1 33) (σ.2.1 36) p1 p2 o1 hg) [0, 7, 8] rfl rfl rfl 137 [1, 2, 3, 4, 5, 6, 9, 10, 11, 12, 13, 14, 15, 16, 17, 18, 19, 20, 21, 22, 23, 24, 25, 26, 27, 28, 29, 30, 31, 32, 33, 34, 35, 36, 37, 38, 39, 40, 41, 42, 43, 44, 45, 46, 47, 48, 49, 50, 51, 52, 53, 54, 55, 56, 57, 58, 59, 60, 61, 62, 63, 64, 65, 66, 67, 68, 69, 70, 71, 72, 73, 74, 75, 76, 77, 78, 79, 80, 81, 82, 83, 84, 85, 86, 87, 88, 89, 90, 91, 92, 93, 94, 95, 96, 97, 98, 99, 100, 101, 102, 103, 104, 105, 106, 107, 108, 109, 110, 111, 112, 113, 114, 115, 116, 117, 118, 119, 120, 121, 122, 123, 124, 125, 126, 127, 128, 129, 130, 131, 132, 133, 134, 135, 136] rfl rfl rfl rfl (by decide +kernel)
set_option maxHeartbeats 4000000 in
set_option maxRecDepth 20000 in
theorem X_falls (l : Launch) (E : ENV) (q0 : Nat) (u : List Nat) (σ : CS) (p1 : Int32) {o : Int32 × CS} (h : x_falls σ p1 = some o) : CI l E yX11_falls cX11_falls 2 (some .int) 1 [.ref q0, .int p1] (WC E q0 u σ) (WC E q0 u o.2) o.1 := by
  unfold x_falls at h
  obtain ⟨o1, hg, h⟩ := bd_some h
  have h := Option.some.inj h
  subst h
  exact CI.frame2 (kX11_falls l E q0 (u.getD 0 0) (u.getD 2 0) (u.getD 6 0) (u.getD 8 0) (u.getD 13 0) (u.getD 17 0) (u.getD 23 0) (u.getD 29 0) (u.getD 35 0) (u.getD 63 0) (u.getD 67 0) (u.getD 117 0) (u.getD 118 0) (u.getD 119 0) (u.getD 122 0) (u.getD 126 0) (u.getD 127 0) (u.getD 7 0) (σ.1 25) (σ.1 34) (σ.1 33) (σ.2.1 36) p1 o1 hg) [0, 7, 8] rfl rfl rfl 137 [1, 2, 3, 4, 5, 6, 9, 10, 11, 12, 13, 14, 15, 16, 17, 18, 19, 20, 21, 22, 23, 24, 25, 26, 27, 28, 29, 30, 31, 32, 33, 34, 35, 36, 37, 38, 39, 40, 41, 42, 43, 44, 45, 46, 47, 48, 49, 50, 51, 52, 53, 54, 55, 56, 57, 58, 59, 60, 61, 62, 63, 64, 65, 66, 67, 68, 69, 70, 71, 72, 73, 74, 75, 76, 77, 78, 79, 80, 81, 82, 83, 84, 85, 86, 87, 88, 89, 90, 91, 92, 93, 94, 95, 96, 97, 98, 99, 100, 101, 102, 103, 104, 105, 106, 107, 108, 109, 110, 111, 112, 113, 114, 115, 116, 117, 118, 119, 120, 121, 122, 123, 124, 125, 126, 127, 128, 129, 130, 131, 132, 133, 134, 135, 136] rfl rfl rfl rfl (by decide +kernel)
set_option maxHeartbeats 4000000 in
set_option maxRecDepth 20000 in
theorem X_of (l : Launch) (E : ENV) (q0 : Nat) (u : List Nat) (σ : CS) (p1 p2 : Int32) {o : Int32 × CS} (h : x_of σ p1 p2 = some o) : CI l E yX11_of cX11_of 3 (some .int) 1 [.ref q0, .int p1, .int p2] (WC E q0 u σ) (WC E q0 u o.2) o.1 := by
  unfold x_of at h
  obtain ⟨o1, hg, h⟩ := bd_some h
  have h := Option.some.inj h
  subst h
  exact CI.frame2 (kX11_of l E q0 (u.getD 0 0) (u.getD 2 0) (u.getD 6 0) (u.getD 8 0) (u.getD 13 0) (u.getD 17 0) (u.getD 23 0) (u.getD 29 0) (u.getD 35 0) (u.getD 63 0) (u.getD 67 0) (u.getD 117 0) (u.getD 118 0) (u.getD 119 0) (u.getD 122 0) (u.getD 126 0) (u.getD 127 0) (u.getD 3 0) (u.getD 4 0) (u.getD 5 0) (u.getD 18 0) (u.getD 22 0) (u.getD 19 0) (u.getD 20 0) (u.getD 21 0) (σ.1 25) (σ.1 26) (σ.1 8) (σ.1 10) (σ.1 12) (σ.1 9) (σ.1 11) (σ.2.1 10) (σ.2.1 27) (σ.2.1 26) (σ.2.1 11) (σ.2.1 12) (σ.2.1 28) p1 p2 o1 hg) [0, 3, 18, 19, 22, 6, 5, 21, 20, 4] rfl rfl rfl 137 [1, 2, 7, 8, 9, 10, 11, 12, 13, 14, 15, 16, 17, 23, 24, 25, 26, 27, 28, 29, 30, 31, 32, 33, 34, 35, 36, 37, 38, 39, 40, 41, 42, 43, 44, 45, 46, 47, 48, 49, 50, 51, 52, 53, 54, 55, 56, 57, 58, 59, 60, 61, 62, 63, 64, 65, 66, 67, 68, 69, 70, 71, 72, 73, 74, 75, 76, 77, 78, 79, 80, 81, 82, 83, 84, 85, 86, 87, 88, 89, 90, 91, 92, 93, 94, 95, 96, 97, 98, 99, 100, 101, 102, 103, 104, 105, 106, 107, 108, 109, 110, 111, 112, 113, 114, 115, 116, 117, 118, 119, 120, 121, 122, 123, 124, 125, 126, 127, 128, 129, 130, 131, 132, 133, 134, 135, 136] rfl rfl rfl rfl (by decide +kernel)
set_option maxHeartbeats 4000000 in
set_option maxRecDepth 20000 in
theorem X_set (l : Launch) (E : ENV) (q0 : Nat) (u : List Nat) (σ : CS) (p1 p2 p3 : Int32) {o : Int32 × CS} (h : x_set σ p1 p2 p3 = some o) : CI l E yX11_set cX11_set 4 (some .int) 2 [.ref q0, .int p1, .int p2, .int p3] (WC E q0 u σ) (WC E q0 u o.2) o.1 := by
  unfold x_set at h
  obtain ⟨o1, hg, h⟩ := bd_some h
  have h := Option.some.inj h
  subst h
  exact CI.frame2 (kX11_set l E q0 (u.getD 0 0) (u.getD 2 0) (u.getD 6 0) (u.getD 8 0) (u.getD 13 0) (u.getD 17 0) (u.getD 23 0) (u.getD 29 0) (u.getD 35 0) (u.getD 63 0) (u.getD 67 0) (u.getD 117 0) (u.getD 118 0) (u.getD 119 0) (u.getD 122 0) (u.getD 126 0) (u.getD 127 0) (u.getD 3 0) (u.getD 4 0) (u.getD 5 0) (u.getD 18 0) (u.getD 22 0) (u.getD 19 0) (u.getD 20 0) (u.getD 21 0) (σ.1 25) (σ.1 26) (σ.2.1 27) (σ.2.1 26) (σ.1 8) (σ.1 10) (σ.1 12) (σ.1 9) (σ.1 11) (σ.2.1 11) (σ.2.1 12) (σ.2.1 28) p1 p2 p3 o1 hg) [0, 3, 6, 5, 18, 19, 21, 20, 4] rfl rfl rfl 137 [1, 2, 7, 8, 9, 10, 11, 12, 13, 14, 15, 16, 17, 22, 23, 24, 25, 26, 27, 28, 29, 30, 31, 32, 33, 34, 35, 36, 37, 38, 39, 40, 41, 42, 43, 44, 45, 46, 47, 48, 49, 50, 51, 52, 53, 54, 55, 56, 57, 58, 59, 60, 61, 62, 63, 64, 65, 66, 67, 68, 69, 70, 71, 72, 73, 74, 75, 76, 77, 78, 79, 80, 81, 82, 83, 84, 85, 86, 87, 88, 89, 90, 91, 92, 93, 94, 95, 96, 97, 98, 99, 100, 101, 102, 103, 104, 105, 106, 107, 108, 109, 110, 111, 112, 113, 114, 115, 116, 117, 118, 119, 120, 121, 122, 123, 124, 125, 126, 127, 128, 129, 130, 131, 132, 133, 134, 135, 136] rfl rfl rfl rfl (by decide +kernel)
set_option maxHeartbeats 4000000 in
set_option maxRecDepth 20000 in
theorem X_sheet (l : Launch) (E : ENV) (q0 : Nat) (u : List Nat) (σ : CS) (p1 p2 p3 p4 : Int32) {o : Int32 × CS} (h : x_sheet σ p1 p2 p3 p4 = some o) : CI l E yX11_sheet cX11_sheet 8 (some .int) 1 [.ref q0, .int p1, .int p2, .int p3, .int p4] (WC E q0 u σ) (WC E q0 u o.2) o.1 := by
  unfold x_sheet at h
  obtain ⟨o1, hg, h⟩ := bd_some h
  have h := Option.some.inj h
  subst h
  exact CI.frame2 (kX11_sheet l E q0 (u.getD 0 0) (u.getD 2 0) (u.getD 6 0) (u.getD 8 0) (u.getD 13 0) (u.getD 17 0) (u.getD 23 0) (u.getD 29 0) (u.getD 35 0) (u.getD 63 0) (u.getD 67 0) (u.getD 117 0) (u.getD 118 0) (u.getD 119 0) (u.getD 122 0) (u.getD 126 0) (u.getD 127 0) (u.getD 18 0) (u.getD 22 0) (u.getD 19 0) (u.getD 20 0) (u.getD 21 0) (u.getD 3 0) (u.getD 4 0) (u.getD 5 0) (σ.1 25) (σ.1 8) (σ.1 10) (σ.1 12) (σ.1 9) (σ.1 11) (σ.2.1 12) (σ.1 26) p1 p2 p3 p4 o1 hg) [0, 18, 19, 20, 3] rfl rfl rfl 137 [1, 2, 4, 5, 6, 7, 8, 9, 10, 11, 12, 13, 14, 15, 16, 17, 21, 22, 23, 24, 25, 26, 27, 28, 29, 30, 31, 32, 33, 34, 35, 36, 37, 38, 39, 40, 41, 42, 43, 44, 45, 46, 47, 48, 49, 50, 51, 52, 53, 54, 55, 56, 57, 58, 59, 60, 61, 62, 63, 64, 65, 66, 67, 68, 69, 70, 71, 72, 73, 74, 75, 76, 77, 78, 79, 80, 81, 82, 83, 84, 85, 86, 87, 88, 89, 90, 91, 92, 93, 94, 95, 96, 97, 98, 99, 100, 101, 102, 103, 104, 105, 106, 107, 108, 109, 110, 111, 112, 113, 114, 115, 116, 117, 118, 119, 120, 121, 122, 123, 124, 125, 126, 127, 128, 129, 130, 131, 132, 133, 134, 135, 136] rfl rfl rfl rfl (by decide +kernel)
