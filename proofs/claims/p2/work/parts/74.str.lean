/-! The class: strings and arrays -/
set_option maxRecDepth 100000 in
set_option maxHeartbeats 4000000 in
theorem s_163 (d : Nat) (h : pm_H) : ∀ k : Nat, k < 39 → pm_run pm_swA 12 (d + 1) 163 0 [(0, .ref (3000 + k))] [] h = some (some (.int (Int32.ofInt (slen (3000 + k)))), h)
  | 0, _ => by rfl
  | 1, _ => by rfl
  | 2, _ => by rfl
  | 3, _ => by rfl
  | 4, _ => by rfl
  | 5, _ => by rfl
  | 6, _ => by rfl
  | 7, _ => by rfl
  | 8, _ => by rfl
  | 9, _ => by rfl
  | 10, _ => by rfl
  | 11, _ => by rfl
  | 12, _ => by rfl
  | 13, _ => by rfl
  | 14, _ => by rfl
  | 15, _ => by rfl
  | 16, _ => by rfl
  | 17, _ => by rfl
  | 18, _ => by rfl
  | 19, _ => by rfl
  | 20, _ => by rfl
  | 21, _ => by rfl
  | 22, _ => by rfl
  | 23, _ => by rfl
  | 24, _ => by rfl
  | 25, _ => by rfl
  | 26, _ => by rfl
  | 27, _ => by rfl
  | 28, _ => by rfl
  | 29, _ => by rfl
  | 30, _ => by rfl
  | 31, _ => by rfl
  | 32, _ => by rfl
  | 33, _ => by rfl
  | 34, _ => by rfl
  | 35, _ => by rfl
  | 36, _ => by rfl
  | 37, _ => by rfl
  | 38, _ => by rfl
  | n + 39, hn => absurd hn (by omega)
theorem c_163 {d : Nat} {A B Y : zF} {K : Nat} {T : zT} {s : Nat} {Q : Int → zF → zF → zF → Nat → zT → Prop} (hd : 1 ≤ d) (p1 : 3000 ≤ s ∧ s < 3039) (q : ∀ (r : Int), (r = slen s ∧ 0 ≤ r ∧ r ≤ 6) → Q r A B Y K T) : pzI d 163 [.inr (.inr s)] (A, B, Y, K, T) Q := by
  obtain ⟨e, rfl⟩ : ∃ e, d = e + 1 := ⟨d - 1, by omega⟩
  obtain ⟨k, rfl⟩ : ∃ k, s = 3000 + k := ⟨s - 3000, by omega⟩
  exact ⟨12, _, _, s_163 e (zc (A, B, Y, K, T)) k (by omega), _, A, B, Y, K, T, rfl, rfl, q _ ⟨rfl, slen_r p1⟩⟩
set_option maxRecDepth 100000 in
theorem s_164_4_0 (d : Nat) (h : pm_H) : pm_run pm_swA 12 (d + 6) 164 0 [(0, .ref 3004), (1, .int (Int32.ofInt (0 : Int)))] [] h = some (some (.int (Int32.ofInt (112 : Int))), h) := by rfl
set_option maxRecDepth 100000 in
theorem s_164_4_1 (d : Nat) (h : pm_H) : pm_run pm_swA 12 (d + 6) 164 0 [(0, .ref 3004), (1, .int (Int32.ofInt (1 : Int)))] [] h = some (some (.int (Int32.ofInt (117 : Int))), h) := by rfl
set_option maxRecDepth 100000 in
theorem s_164_4_2 (d : Nat) (h : pm_H) : pm_run pm_swA 12 (d + 6) 164 0 [(0, .ref 3004), (1, .int (Int32.ofInt (2 : Int)))] [] h = some (some (.int (Int32.ofInt (98 : Int))), h) := by rfl
theorem t_164_4 (d : Nat) (h : pm_H) (j : Int) (h0 : 0 ≤ j) (h1 : j < 3) : ∃ c : Int, (0 ≤ c ∧ c < 65536) ∧ pm_run pm_swA 12 (d + 6) 164 0 [(0, .ref 3004), (1, .int (Int32.ofInt j))] [] h = some (some (.int (Int32.ofInt c)), h) := by
  rcases (by omega : j = 0 ∨ j = 1 ∨ j = 2) with rfl | rfl | rfl
  · exact ⟨112, by omega, s_164_4_0 d h⟩
  · exact ⟨117, by omega, s_164_4_1 d h⟩
  · exact ⟨98, by omega, s_164_4_2 d h⟩
set_option maxRecDepth 100000 in
theorem s_164_5_0 (d : Nat) (h : pm_H) : pm_run pm_swA 12 (d + 6) 164 0 [(0, .ref 3005), (1, .int (Int32.ofInt (0 : Int)))] [] h = some (some (.int (Int32.ofInt (115 : Int))), h) := by rfl
set_option maxRecDepth 100000 in
theorem s_164_5_1 (d : Nat) (h : pm_H) : pm_run pm_swA 12 (d + 6) 164 0 [(0, .ref 3005), (1, .int (Int32.ofInt (1 : Int)))] [] h = some (some (.int (Int32.ofInt (101 : Int))), h) := by rfl
set_option maxRecDepth 100000 in
theorem s_164_5_2 (d : Nat) (h : pm_H) : pm_run pm_swA 12 (d + 6) 164 0 [(0, .ref 3005), (1, .int (Int32.ofInt (2 : Int)))] [] h = some (some (.int (Int32.ofInt (99 : Int))), h) := by rfl
theorem t_164_5 (d : Nat) (h : pm_H) (j : Int) (h0 : 0 ≤ j) (h1 : j < 3) : ∃ c : Int, (0 ≤ c ∧ c < 65536) ∧ pm_run pm_swA 12 (d + 6) 164 0 [(0, .ref 3005), (1, .int (Int32.ofInt j))] [] h = some (some (.int (Int32.ofInt c)), h) := by
  rcases (by omega : j = 0 ∨ j = 1 ∨ j = 2) with rfl | rfl | rfl
  · exact ⟨115, by omega, s_164_5_0 d h⟩
  · exact ⟨101, by omega, s_164_5_1 d h⟩
  · exact ⟨99, by omega, s_164_5_2 d h⟩
set_option maxRecDepth 100000 in
theorem s_164_6_0 (d : Nat) (h : pm_H) : pm_run pm_swA 12 (d + 6) 164 0 [(0, .ref 3006), (1, .int (Int32.ofInt (0 : Int)))] [] h = some (some (.int (Int32.ofInt (102 : Int))), h) := by rfl
set_option maxRecDepth 100000 in
theorem s_164_6_1 (d : Nat) (h : pm_H) : pm_run pm_swA 12 (d + 6) 164 0 [(0, .ref 3006), (1, .int (Int32.ofInt (1 : Int)))] [] h = some (some (.int (Int32.ofInt (117 : Int))), h) := by rfl
set_option maxRecDepth 100000 in
theorem s_164_6_2 (d : Nat) (h : pm_H) : pm_run pm_swA 12 (d + 6) 164 0 [(0, .ref 3006), (1, .int (Int32.ofInt (2 : Int)))] [] h = some (some (.int (Int32.ofInt (110 : Int))), h) := by rfl
theorem t_164_6 (d : Nat) (h : pm_H) (j : Int) (h0 : 0 ≤ j) (h1 : j < 3) : ∃ c : Int, (0 ≤ c ∧ c < 65536) ∧ pm_run pm_swA 12 (d + 6) 164 0 [(0, .ref 3006), (1, .int (Int32.ofInt j))] [] h = some (some (.int (Int32.ofInt c)), h) := by
  rcases (by omega : j = 0 ∨ j = 1 ∨ j = 2) with rfl | rfl | rfl
  · exact ⟨102, by omega, s_164_6_0 d h⟩
  · exact ⟨117, by omega, s_164_6_1 d h⟩
  · exact ⟨110, by omega, s_164_6_2 d h⟩
set_option maxRecDepth 100000 in
theorem s_164_7_0 (d : Nat) (h : pm_H) : pm_run pm_swA 12 (d + 6) 164 0 [(0, .ref 3007), (1, .int (Int32.ofInt (0 : Int)))] [] h = some (some (.int (Int32.ofInt (114 : Int))), h) := by rfl
set_option maxRecDepth 100000 in
theorem s_164_7_1 (d : Nat) (h : pm_H) : pm_run pm_swA 12 (d + 6) 164 0 [(0, .ref 3007), (1, .int (Int32.ofInt (1 : Int)))] [] h = some (some (.int (Int32.ofInt (101 : Int))), h) := by rfl
set_option maxRecDepth 100000 in
theorem s_164_7_2 (d : Nat) (h : pm_H) : pm_run pm_swA 12 (d + 6) 164 0 [(0, .ref 3007), (1, .int (Int32.ofInt (2 : Int)))] [] h = some (some (.int (Int32.ofInt (116 : Int))), h) := by rfl
set_option maxRecDepth 100000 in
theorem s_164_7_3 (d : Nat) (h : pm_H) : pm_run pm_swA 12 (d + 6) 164 0 [(0, .ref 3007), (1, .int (Int32.ofInt (3 : Int)))] [] h = some (some (.int (Int32.ofInt (117 : Int))), h) := by rfl
set_option maxRecDepth 100000 in
theorem s_164_7_4 (d : Nat) (h : pm_H) : pm_run pm_swA 12 (d + 6) 164 0 [(0, .ref 3007), (1, .int (Int32.ofInt (4 : Int)))] [] h = some (some (.int (Int32.ofInt (114 : Int))), h) := by rfl
set_option maxRecDepth 100000 in
theorem s_164_7_5 (d : Nat) (h : pm_H) : pm_run pm_swA 12 (d + 6) 164 0 [(0, .ref 3007), (1, .int (Int32.ofInt (5 : Int)))] [] h = some (some (.int (Int32.ofInt (110 : Int))), h) := by rfl
theorem t_164_7 (d : Nat) (h : pm_H) (j : Int) (h0 : 0 ≤ j) (h1 : j < 6) : ∃ c : Int, (0 ≤ c ∧ c < 65536) ∧ pm_run pm_swA 12 (d + 6) 164 0 [(0, .ref 3007), (1, .int (Int32.ofInt j))] [] h = some (some (.int (Int32.ofInt c)), h) := by
  rcases (by omega : j = 0 ∨ j = 1 ∨ j = 2 ∨ j = 3 ∨ j = 4 ∨ j = 5) with rfl | rfl | rfl | rfl | rfl | rfl
  · exact ⟨114, by omega, s_164_7_0 d h⟩
  · exact ⟨101, by omega, s_164_7_1 d h⟩
  · exact ⟨116, by omega, s_164_7_2 d h⟩
  · exact ⟨117, by omega, s_164_7_3 d h⟩
  · exact ⟨114, by omega, s_164_7_4 d h⟩
  · exact ⟨110, by omega, s_164_7_5 d h⟩
set_option maxRecDepth 100000 in
theorem s_164_8_0 (d : Nat) (h : pm_H) : pm_run pm_swA 12 (d + 6) 164 0 [(0, .ref 3008), (1, .int (Int32.ofInt (0 : Int)))] [] h = some (some (.int (Int32.ofInt (105 : Int))), h) := by rfl
set_option maxRecDepth 100000 in
theorem s_164_8_1 (d : Nat) (h : pm_H) : pm_run pm_swA 12 (d + 6) 164 0 [(0, .ref 3008), (1, .int (Int32.ofInt (1 : Int)))] [] h = some (some (.int (Int32.ofInt (102 : Int))), h) := by rfl
theorem t_164_8 (d : Nat) (h : pm_H) (j : Int) (h0 : 0 ≤ j) (h1 : j < 2) : ∃ c : Int, (0 ≤ c ∧ c < 65536) ∧ pm_run pm_swA 12 (d + 6) 164 0 [(0, .ref 3008), (1, .int (Int32.ofInt j))] [] h = some (some (.int (Int32.ofInt c)), h) := by
  rcases (by omega : j = 0 ∨ j = 1) with rfl | rfl
  · exact ⟨105, by omega, s_164_8_0 d h⟩
  · exact ⟨102, by omega, s_164_8_1 d h⟩
set_option maxRecDepth 100000 in
theorem s_164_9_0 (d : Nat) (h : pm_H) : pm_run pm_swA 12 (d + 6) 164 0 [(0, .ref 3009), (1, .int (Int32.ofInt (0 : Int)))] [] h = some (some (.int (Int32.ofInt (101 : Int))), h) := by rfl
set_option maxRecDepth 100000 in
theorem s_164_9_1 (d : Nat) (h : pm_H) : pm_run pm_swA 12 (d + 6) 164 0 [(0, .ref 3009), (1, .int (Int32.ofInt (1 : Int)))] [] h = some (some (.int (Int32.ofInt (108 : Int))), h) := by rfl
set_option maxRecDepth 100000 in
theorem s_164_9_2 (d : Nat) (h : pm_H) : pm_run pm_swA 12 (d + 6) 164 0 [(0, .ref 3009), (1, .int (Int32.ofInt (2 : Int)))] [] h = some (some (.int (Int32.ofInt (115 : Int))), h) := by rfl
set_option maxRecDepth 100000 in
theorem s_164_9_3 (d : Nat) (h : pm_H) : pm_run pm_swA 12 (d + 6) 164 0 [(0, .ref 3009), (1, .int (Int32.ofInt (3 : Int)))] [] h = some (some (.int (Int32.ofInt (101 : Int))), h) := by rfl
theorem t_164_9 (d : Nat) (h : pm_H) (j : Int) (h0 : 0 ≤ j) (h1 : j < 4) : ∃ c : Int, (0 ≤ c ∧ c < 65536) ∧ pm_run pm_swA 12 (d + 6) 164 0 [(0, .ref 3009), (1, .int (Int32.ofInt j))] [] h = some (some (.int (Int32.ofInt c)), h) := by
  rcases (by omega : j = 0 ∨ j = 1 ∨ j = 2 ∨ j = 3) with rfl | rfl | rfl | rfl
  · exact ⟨101, by omega, s_164_9_0 d h⟩
  · exact ⟨108, by omega, s_164_9_1 d h⟩
  · exact ⟨115, by omega, s_164_9_2 d h⟩
  · exact ⟨101, by omega, s_164_9_3 d h⟩
set_option maxRecDepth 100000 in
theorem s_164_10_0 (d : Nat) (h : pm_H) : pm_run pm_swA 12 (d + 6) 164 0 [(0, .ref 3010), (1, .int (Int32.ofInt (0 : Int)))] [] h = some (some (.int (Int32.ofInt (119 : Int))), h) := by rfl
set_option maxRecDepth 100000 in
theorem s_164_10_1 (d : Nat) (h : pm_H) : pm_run pm_swA 12 (d + 6) 164 0 [(0, .ref 3010), (1, .int (Int32.ofInt (1 : Int)))] [] h = some (some (.int (Int32.ofInt (104 : Int))), h) := by rfl
set_option maxRecDepth 100000 in
theorem s_164_10_2 (d : Nat) (h : pm_H) : pm_run pm_swA 12 (d + 6) 164 0 [(0, .ref 3010), (1, .int (Int32.ofInt (2 : Int)))] [] h = some (some (.int (Int32.ofInt (105 : Int))), h) := by rfl
set_option maxRecDepth 100000 in
theorem s_164_10_3 (d : Nat) (h : pm_H) : pm_run pm_swA 12 (d + 6) 164 0 [(0, .ref 3010), (1, .int (Int32.ofInt (3 : Int)))] [] h = some (some (.int (Int32.ofInt (108 : Int))), h) := by rfl
set_option maxRecDepth 100000 in
theorem s_164_10_4 (d : Nat) (h : pm_H) : pm_run pm_swA 12 (d + 6) 164 0 [(0, .ref 3010), (1, .int (Int32.ofInt (4 : Int)))] [] h = some (some (.int (Int32.ofInt (101 : Int))), h) := by rfl
theorem t_164_10 (d : Nat) (h : pm_H) (j : Int) (h0 : 0 ≤ j) (h1 : j < 5) : ∃ c : Int, (0 ≤ c ∧ c < 65536) ∧ pm_run pm_swA 12 (d + 6) 164 0 [(0, .ref 3010), (1, .int (Int32.ofInt j))] [] h = some (some (.int (Int32.ofInt c)), h) := by
  rcases (by omega : j = 0 ∨ j = 1 ∨ j = 2 ∨ j = 3 ∨ j = 4) with rfl | rfl | rfl | rfl | rfl
  · exact ⟨119, by omega, s_164_10_0 d h⟩
  · exact ⟨104, by omega, s_164_10_1 d h⟩
  · exact ⟨105, by omega, s_164_10_2 d h⟩
  · exact ⟨108, by omega, s_164_10_3 d h⟩
  · exact ⟨101, by omega, s_164_10_4 d h⟩
set_option maxRecDepth 100000 in
theorem s_164_11_0 (d : Nat) (h : pm_H) : pm_run pm_swA 12 (d + 6) 164 0 [(0, .ref 3011), (1, .int (Int32.ofInt (0 : Int)))] [] h = some (some (.int (Int32.ofInt (115 : Int))), h) := by rfl
set_option maxRecDepth 100000 in
theorem s_164_11_1 (d : Nat) (h : pm_H) : pm_run pm_swA 12 (d + 6) 164 0 [(0, .ref 3011), (1, .int (Int32.ofInt (1 : Int)))] [] h = some (some (.int (Int32.ofInt (107 : Int))), h) := by rfl
set_option maxRecDepth 100000 in
theorem s_164_11_2 (d : Nat) (h : pm_H) : pm_run pm_swA 12 (d + 6) 164 0 [(0, .ref 3011), (1, .int (Int32.ofInt (2 : Int)))] [] h = some (some (.int (Int32.ofInt (105 : Int))), h) := by rfl
set_option maxRecDepth 100000 in
theorem s_164_11_3 (d : Nat) (h : pm_H) : pm_run pm_swA 12 (d + 6) 164 0 [(0, .ref 3011), (1, .int (Int32.ofInt (3 : Int)))] [] h = some (some (.int (Int32.ofInt (112 : Int))), h) := by rfl
theorem t_164_11 (d : Nat) (h : pm_H) (j : Int) (h0 : 0 ≤ j) (h1 : j < 4) : ∃ c : Int, (0 ≤ c ∧ c < 65536) ∧ pm_run pm_swA 12 (d + 6) 164 0 [(0, .ref 3011), (1, .int (Int32.ofInt j))] [] h = some (some (.int (Int32.ofInt c)), h) := by
  rcases (by omega : j = 0 ∨ j = 1 ∨ j = 2 ∨ j = 3) with rfl | rfl | rfl | rfl
  · exact ⟨115, by omega, s_164_11_0 d h⟩
  · exact ⟨107, by omega, s_164_11_1 d h⟩
  · exact ⟨105, by omega, s_164_11_2 d h⟩
  · exact ⟨112, by omega, s_164_11_3 d h⟩
set_option maxRecDepth 100000 in
theorem s_164_12_0 (d : Nat) (h : pm_H) : pm_run pm_swA 12 (d + 6) 164 0 [(0, .ref 3012), (1, .int (Int32.ofInt (0 : Int)))] [] h = some (some (.int (Int32.ofInt (124 : Int))), h) := by rfl
theorem t_164_12 (d : Nat) (h : pm_H) (j : Int) (h0 : 0 ≤ j) (h1 : j < 1) : ∃ c : Int, (0 ≤ c ∧ c < 65536) ∧ pm_run pm_swA 12 (d + 6) 164 0 [(0, .ref 3012), (1, .int (Int32.ofInt j))] [] h = some (some (.int (Int32.ofInt c)), h) := by
  obtain rfl : j = 0 := by omega
  exact ⟨_, by omega, s_164_12_0 d h⟩
set_option maxRecDepth 100000 in
theorem s_164_13_0 (d : Nat) (h : pm_H) : pm_run pm_swA 12 (d + 6) 164 0 [(0, .ref 3013), (1, .int (Int32.ofInt (0 : Int)))] [] h = some (some (.int (Int32.ofInt (94 : Int))), h) := by rfl
theorem t_164_13 (d : Nat) (h : pm_H) (j : Int) (h0 : 0 ≤ j) (h1 : j < 1) : ∃ c : Int, (0 ≤ c ∧ c < 65536) ∧ pm_run pm_swA 12 (d + 6) 164 0 [(0, .ref 3013), (1, .int (Int32.ofInt j))] [] h = some (some (.int (Int32.ofInt c)), h) := by
  obtain rfl : j = 0 := by omega
  exact ⟨_, by omega, s_164_13_0 d h⟩
set_option maxRecDepth 100000 in
theorem s_164_14_0 (d : Nat) (h : pm_H) : pm_run pm_swA 12 (d + 6) 164 0 [(0, .ref 3014), (1, .int (Int32.ofInt (0 : Int)))] [] h = some (some (.int (Int32.ofInt (38 : Int))), h) := by rfl
theorem t_164_14 (d : Nat) (h : pm_H) (j : Int) (h0 : 0 ≤ j) (h1 : j < 1) : ∃ c : Int, (0 ≤ c ∧ c < 65536) ∧ pm_run pm_swA 12 (d + 6) 164 0 [(0, .ref 3014), (1, .int (Int32.ofInt j))] [] h = some (some (.int (Int32.ofInt c)), h) := by
  obtain rfl : j = 0 := by omega
  exact ⟨_, by omega, s_164_14_0 d h⟩
set_option maxRecDepth 100000 in
theorem s_164_15_0 (d : Nat) (h : pm_H) : pm_run pm_swA 12 (d + 6) 164 0 [(0, .ref 3015), (1, .int (Int32.ofInt (0 : Int)))] [] h = some (some (.int (Int32.ofInt (61 : Int))), h) := by rfl
set_option maxRecDepth 100000 in
theorem s_164_15_1 (d : Nat) (h : pm_H) : pm_run pm_swA 12 (d + 6) 164 0 [(0, .ref 3015), (1, .int (Int32.ofInt (1 : Int)))] [] h = some (some (.int (Int32.ofInt (61 : Int))), h) := by rfl
theorem t_164_15 (d : Nat) (h : pm_H) (j : Int) (h0 : 0 ≤ j) (h1 : j < 2) : ∃ c : Int, (0 ≤ c ∧ c < 65536) ∧ pm_run pm_swA 12 (d + 6) 164 0 [(0, .ref 3015), (1, .int (Int32.ofInt j))] [] h = some (some (.int (Int32.ofInt c)), h) := by
  rcases (by omega : j = 0 ∨ j = 1) with rfl | rfl
  · exact ⟨61, by omega, s_164_15_0 d h⟩
  · exact ⟨61, by omega, s_164_15_1 d h⟩
set_option maxRecDepth 100000 in
theorem s_164_16_0 (d : Nat) (h : pm_H) : pm_run pm_swA 12 (d + 6) 164 0 [(0, .ref 3016), (1, .int (Int32.ofInt (0 : Int)))] [] h = some (some (.int (Int32.ofInt (33 : Int))), h) := by rfl
set_option maxRecDepth 100000 in
theorem s_164_16_1 (d : Nat) (h : pm_H) : pm_run pm_swA 12 (d + 6) 164 0 [(0, .ref 3016), (1, .int (Int32.ofInt (1 : Int)))] [] h = some (some (.int (Int32.ofInt (61 : Int))), h) := by rfl
theorem t_164_16 (d : Nat) (h : pm_H) (j : Int) (h0 : 0 ≤ j) (h1 : j < 2) : ∃ c : Int, (0 ≤ c ∧ c < 65536) ∧ pm_run pm_swA 12 (d + 6) 164 0 [(0, .ref 3016), (1, .int (Int32.ofInt j))] [] h = some (some (.int (Int32.ofInt c)), h) := by
  rcases (by omega : j = 0 ∨ j = 1) with rfl | rfl
  · exact ⟨33, by omega, s_164_16_0 d h⟩
  · exact ⟨61, by omega, s_164_16_1 d h⟩
set_option maxRecDepth 100000 in
theorem s_164_17_0 (d : Nat) (h : pm_H) : pm_run pm_swA 12 (d + 6) 164 0 [(0, .ref 3017), (1, .int (Int32.ofInt (0 : Int)))] [] h = some (some (.int (Int32.ofInt (60 : Int))), h) := by rfl
theorem t_164_17 (d : Nat) (h : pm_H) (j : Int) (h0 : 0 ≤ j) (h1 : j < 1) : ∃ c : Int, (0 ≤ c ∧ c < 65536) ∧ pm_run pm_swA 12 (d + 6) 164 0 [(0, .ref 3017), (1, .int (Int32.ofInt j))] [] h = some (some (.int (Int32.ofInt c)), h) := by
  obtain rfl : j = 0 := by omega
  exact ⟨_, by omega, s_164_17_0 d h⟩
set_option maxRecDepth 100000 in
theorem s_164_18_0 (d : Nat) (h : pm_H) : pm_run pm_swA 12 (d + 6) 164 0 [(0, .ref 3018), (1, .int (Int32.ofInt (0 : Int)))] [] h = some (some (.int (Int32.ofInt (60 : Int))), h) := by rfl
set_option maxRecDepth 100000 in
theorem s_164_18_1 (d : Nat) (h : pm_H) : pm_run pm_swA 12 (d + 6) 164 0 [(0, .ref 3018), (1, .int (Int32.ofInt (1 : Int)))] [] h = some (some (.int (Int32.ofInt (61 : Int))), h) := by rfl
theorem t_164_18 (d : Nat) (h : pm_H) (j : Int) (h0 : 0 ≤ j) (h1 : j < 2) : ∃ c : Int, (0 ≤ c ∧ c < 65536) ∧ pm_run pm_swA 12 (d + 6) 164 0 [(0, .ref 3018), (1, .int (Int32.ofInt j))] [] h = some (some (.int (Int32.ofInt c)), h) := by
  rcases (by omega : j = 0 ∨ j = 1) with rfl | rfl
  · exact ⟨60, by omega, s_164_18_0 d h⟩
  · exact ⟨61, by omega, s_164_18_1 d h⟩
set_option maxRecDepth 100000 in
theorem s_164_19_0 (d : Nat) (h : pm_H) : pm_run pm_swA 12 (d + 6) 164 0 [(0, .ref 3019), (1, .int (Int32.ofInt (0 : Int)))] [] h = some (some (.int (Int32.ofInt (60 : Int))), h) := by rfl
set_option maxRecDepth 100000 in
theorem s_164_19_1 (d : Nat) (h : pm_H) : pm_run pm_swA 12 (d + 6) 164 0 [(0, .ref 3019), (1, .int (Int32.ofInt (1 : Int)))] [] h = some (some (.int (Int32.ofInt (60 : Int))), h) := by rfl
theorem t_164_19 (d : Nat) (h : pm_H) (j : Int) (h0 : 0 ≤ j) (h1 : j < 2) : ∃ c : Int, (0 ≤ c ∧ c < 65536) ∧ pm_run pm_swA 12 (d + 6) 164 0 [(0, .ref 3019), (1, .int (Int32.ofInt j))] [] h = some (some (.int (Int32.ofInt c)), h) := by
  rcases (by omega : j = 0 ∨ j = 1) with rfl | rfl
  · exact ⟨60, by omega, s_164_19_0 d h⟩
  · exact ⟨60, by omega, s_164_19_1 d h⟩
set_option maxRecDepth 100000 in
theorem s_164_20_0 (d : Nat) (h : pm_H) : pm_run pm_swA 12 (d + 6) 164 0 [(0, .ref 3020), (1, .int (Int32.ofInt (0 : Int)))] [] h = some (some (.int (Int32.ofInt (62 : Int))), h) := by rfl
set_option maxRecDepth 100000 in
theorem s_164_20_1 (d : Nat) (h : pm_H) : pm_run pm_swA 12 (d + 6) 164 0 [(0, .ref 3020), (1, .int (Int32.ofInt (1 : Int)))] [] h = some (some (.int (Int32.ofInt (62 : Int))), h) := by rfl
theorem t_164_20 (d : Nat) (h : pm_H) (j : Int) (h0 : 0 ≤ j) (h1 : j < 2) : ∃ c : Int, (0 ≤ c ∧ c < 65536) ∧ pm_run pm_swA 12 (d + 6) 164 0 [(0, .ref 3020), (1, .int (Int32.ofInt j))] [] h = some (some (.int (Int32.ofInt c)), h) := by
  rcases (by omega : j = 0 ∨ j = 1) with rfl | rfl
  · exact ⟨62, by omega, s_164_20_0 d h⟩
  · exact ⟨62, by omega, s_164_20_1 d h⟩
set_option maxRecDepth 100000 in
theorem s_164_21_0 (d : Nat) (h : pm_H) : pm_run pm_swA 12 (d + 6) 164 0 [(0, .ref 3021), (1, .int (Int32.ofInt (0 : Int)))] [] h = some (some (.int (Int32.ofInt (43 : Int))), h) := by rfl
theorem t_164_21 (d : Nat) (h : pm_H) (j : Int) (h0 : 0 ≤ j) (h1 : j < 1) : ∃ c : Int, (0 ≤ c ∧ c < 65536) ∧ pm_run pm_swA 12 (d + 6) 164 0 [(0, .ref 3021), (1, .int (Int32.ofInt j))] [] h = some (some (.int (Int32.ofInt c)), h) := by
  obtain rfl : j = 0 := by omega
  exact ⟨_, by omega, s_164_21_0 d h⟩
set_option maxRecDepth 100000 in
theorem s_164_22_0 (d : Nat) (h : pm_H) : pm_run pm_swA 12 (d + 6) 164 0 [(0, .ref 3022), (1, .int (Int32.ofInt (0 : Int)))] [] h = some (some (.int (Int32.ofInt (45 : Int))), h) := by rfl
theorem t_164_22 (d : Nat) (h : pm_H) (j : Int) (h0 : 0 ≤ j) (h1 : j < 1) : ∃ c : Int, (0 ≤ c ∧ c < 65536) ∧ pm_run pm_swA 12 (d + 6) 164 0 [(0, .ref 3022), (1, .int (Int32.ofInt j))] [] h = some (some (.int (Int32.ofInt c)), h) := by
  obtain rfl : j = 0 := by omega
  exact ⟨_, by omega, s_164_22_0 d h⟩
set_option maxRecDepth 100000 in
theorem s_164_23_0 (d : Nat) (h : pm_H) : pm_run pm_swA 12 (d + 6) 164 0 [(0, .ref 3023), (1, .int (Int32.ofInt (0 : Int)))] [] h = some (some (.int (Int32.ofInt (42 : Int))), h) := by rfl
theorem t_164_23 (d : Nat) (h : pm_H) (j : Int) (h0 : 0 ≤ j) (h1 : j < 1) : ∃ c : Int, (0 ≤ c ∧ c < 65536) ∧ pm_run pm_swA 12 (d + 6) 164 0 [(0, .ref 3023), (1, .int (Int32.ofInt j))] [] h = some (some (.int (Int32.ofInt c)), h) := by
  obtain rfl : j = 0 := by omega
  exact ⟨_, by omega, s_164_23_0 d h⟩
set_option maxRecDepth 100000 in
theorem s_164_24_0 (d : Nat) (h : pm_H) : pm_run pm_swA 12 (d + 6) 164 0 [(0, .ref 3024), (1, .int (Int32.ofInt (0 : Int)))] [] h = some (some (.int (Int32.ofInt (47 : Int))), h) := by rfl
theorem t_164_24 (d : Nat) (h : pm_H) (j : Int) (h0 : 0 ≤ j) (h1 : j < 1) : ∃ c : Int, (0 ≤ c ∧ c < 65536) ∧ pm_run pm_swA 12 (d + 6) 164 0 [(0, .ref 3024), (1, .int (Int32.ofInt j))] [] h = some (some (.int (Int32.ofInt c)), h) := by
  obtain rfl : j = 0 := by omega
  exact ⟨_, by omega, s_164_24_0 d h⟩
set_option maxRecDepth 100000 in
theorem s_164_25_0 (d : Nat) (h : pm_H) : pm_run pm_swA 12 (d + 6) 164 0 [(0, .ref 3025), (1, .int (Int32.ofInt (0 : Int)))] [] h = some (some (.int (Int32.ofInt (37 : Int))), h) := by rfl
theorem t_164_25 (d : Nat) (h : pm_H) (j : Int) (h0 : 0 ≤ j) (h1 : j < 1) : ∃ c : Int, (0 ≤ c ∧ c < 65536) ∧ pm_run pm_swA 12 (d + 6) 164 0 [(0, .ref 3025), (1, .int (Int32.ofInt j))] [] h = some (some (.int (Int32.ofInt c)), h) := by
  obtain rfl : j = 0 := by omega
  exact ⟨_, by omega, s_164_25_0 d h⟩
set_option maxRecDepth 100000 in
theorem s_164_26_0 (d : Nat) (h : pm_H) : pm_run pm_swA 12 (d + 6) 164 0 [(0, .ref 3026), (1, .int (Int32.ofInt (0 : Int)))] [] h = some (some (.int (Int32.ofInt (126 : Int))), h) := by rfl
theorem t_164_26 (d : Nat) (h : pm_H) (j : Int) (h0 : 0 ≤ j) (h1 : j < 1) : ∃ c : Int, (0 ≤ c ∧ c < 65536) ∧ pm_run pm_swA 12 (d + 6) 164 0 [(0, .ref 3026), (1, .int (Int32.ofInt j))] [] h = some (some (.int (Int32.ofInt c)), h) := by
  obtain rfl : j = 0 := by omega
  exact ⟨_, by omega, s_164_26_0 d h⟩
set_option maxRecDepth 100000 in
theorem s_164_27_0 (d : Nat) (h : pm_H) : pm_run pm_swA 12 (d + 6) 164 0 [(0, .ref 3027), (1, .int (Int32.ofInt (0 : Int)))] [] h = some (some (.int (Int32.ofInt (33 : Int))), h) := by rfl
theorem t_164_27 (d : Nat) (h : pm_H) (j : Int) (h0 : 0 ≤ j) (h1 : j < 1) : ∃ c : Int, (0 ≤ c ∧ c < 65536) ∧ pm_run pm_swA 12 (d + 6) 164 0 [(0, .ref 3027), (1, .int (Int32.ofInt j))] [] h = some (some (.int (Int32.ofInt c)), h) := by
  obtain rfl : j = 0 := by omega
  exact ⟨_, by omega, s_164_27_0 d h⟩
set_option maxRecDepth 100000 in
theorem s_164_28_0 (d : Nat) (h : pm_H) : pm_run pm_swA 12 (d + 6) 164 0 [(0, .ref 3028), (1, .int (Int32.ofInt (0 : Int)))] [] h = some (some (.int (Int32.ofInt (63 : Int))), h) := by rfl
theorem t_164_28 (d : Nat) (h : pm_H) (j : Int) (h0 : 0 ≤ j) (h1 : j < 1) : ∃ c : Int, (0 ≤ c ∧ c < 65536) ∧ pm_run pm_swA 12 (d + 6) 164 0 [(0, .ref 3028), (1, .int (Int32.ofInt j))] [] h = some (some (.int (Int32.ofInt c)), h) := by
  obtain rfl : j = 0 := by omega
  exact ⟨_, by omega, s_164_28_0 d h⟩
set_option maxRecDepth 100000 in
theorem s_164_29_0 (d : Nat) (h : pm_H) : pm_run pm_swA 12 (d + 6) 164 0 [(0, .ref 3029), (1, .int (Int32.ofInt (0 : Int)))] [] h = some (some (.int (Int32.ofInt (58 : Int))), h) := by rfl
theorem t_164_29 (d : Nat) (h : pm_H) (j : Int) (h0 : 0 ≤ j) (h1 : j < 1) : ∃ c : Int, (0 ≤ c ∧ c < 65536) ∧ pm_run pm_swA 12 (d + 6) 164 0 [(0, .ref 3029), (1, .int (Int32.ofInt j))] [] h = some (some (.int (Int32.ofInt c)), h) := by
  obtain rfl : j = 0 := by omega
  exact ⟨_, by omega, s_164_29_0 d h⟩
set_option maxRecDepth 100000 in
theorem s_164_30_0 (d : Nat) (h : pm_H) : pm_run pm_swA 12 (d + 6) 164 0 [(0, .ref 3030), (1, .int (Int32.ofInt (0 : Int)))] [] h = some (some (.int (Int32.ofInt (61 : Int))), h) := by rfl
theorem t_164_30 (d : Nat) (h : pm_H) (j : Int) (h0 : 0 ≤ j) (h1 : j < 1) : ∃ c : Int, (0 ≤ c ∧ c < 65536) ∧ pm_run pm_swA 12 (d + 6) 164 0 [(0, .ref 3030), (1, .int (Int32.ofInt j))] [] h = some (some (.int (Int32.ofInt c)), h) := by
  obtain rfl : j = 0 := by omega
  exact ⟨_, by omega, s_164_30_0 d h⟩
set_option maxRecDepth 100000 in
theorem s_164_31_0 (d : Nat) (h : pm_H) : pm_run pm_swA 12 (d + 6) 164 0 [(0, .ref 3031), (1, .int (Int32.ofInt (0 : Int)))] [] h = some (some (.int (Int32.ofInt (40 : Int))), h) := by rfl
theorem t_164_31 (d : Nat) (h : pm_H) (j : Int) (h0 : 0 ≤ j) (h1 : j < 1) : ∃ c : Int, (0 ≤ c ∧ c < 65536) ∧ pm_run pm_swA 12 (d + 6) 164 0 [(0, .ref 3031), (1, .int (Int32.ofInt j))] [] h = some (some (.int (Int32.ofInt c)), h) := by
  obtain rfl : j = 0 := by omega
  exact ⟨_, by omega, s_164_31_0 d h⟩
set_option maxRecDepth 100000 in
theorem s_164_32_0 (d : Nat) (h : pm_H) : pm_run pm_swA 12 (d + 6) 164 0 [(0, .ref 3032), (1, .int (Int32.ofInt (0 : Int)))] [] h = some (some (.int (Int32.ofInt (41 : Int))), h) := by rfl
theorem t_164_32 (d : Nat) (h : pm_H) (j : Int) (h0 : 0 ≤ j) (h1 : j < 1) : ∃ c : Int, (0 ≤ c ∧ c < 65536) ∧ pm_run pm_swA 12 (d + 6) 164 0 [(0, .ref 3032), (1, .int (Int32.ofInt j))] [] h = some (some (.int (Int32.ofInt c)), h) := by
  obtain rfl : j = 0 := by omega
  exact ⟨_, by omega, s_164_32_0 d h⟩
set_option maxRecDepth 100000 in
theorem s_164_33_0 (d : Nat) (h : pm_H) : pm_run pm_swA 12 (d + 6) 164 0 [(0, .ref 3033), (1, .int (Int32.ofInt (0 : Int)))] [] h = some (some (.int (Int32.ofInt (91 : Int))), h) := by rfl
theorem t_164_33 (d : Nat) (h : pm_H) (j : Int) (h0 : 0 ≤ j) (h1 : j < 1) : ∃ c : Int, (0 ≤ c ∧ c < 65536) ∧ pm_run pm_swA 12 (d + 6) 164 0 [(0, .ref 3033), (1, .int (Int32.ofInt j))] [] h = some (some (.int (Int32.ofInt c)), h) := by
  obtain rfl : j = 0 := by omega
  exact ⟨_, by omega, s_164_33_0 d h⟩
set_option maxRecDepth 100000 in
theorem s_164_34_0 (d : Nat) (h : pm_H) : pm_run pm_swA 12 (d + 6) 164 0 [(0, .ref 3034), (1, .int (Int32.ofInt (0 : Int)))] [] h = some (some (.int (Int32.ofInt (93 : Int))), h) := by rfl
theorem t_164_34 (d : Nat) (h : pm_H) (j : Int) (h0 : 0 ≤ j) (h1 : j < 1) : ∃ c : Int, (0 ≤ c ∧ c < 65536) ∧ pm_run pm_swA 12 (d + 6) 164 0 [(0, .ref 3034), (1, .int (Int32.ofInt j))] [] h = some (some (.int (Int32.ofInt c)), h) := by
  obtain rfl : j = 0 := by omega
  exact ⟨_, by omega, s_164_34_0 d h⟩
set_option maxRecDepth 100000 in
theorem s_164_35_0 (d : Nat) (h : pm_H) : pm_run pm_swA 12 (d + 6) 164 0 [(0, .ref 3035), (1, .int (Int32.ofInt (0 : Int)))] [] h = some (some (.int (Int32.ofInt (123 : Int))), h) := by rfl
theorem t_164_35 (d : Nat) (h : pm_H) (j : Int) (h0 : 0 ≤ j) (h1 : j < 1) : ∃ c : Int, (0 ≤ c ∧ c < 65536) ∧ pm_run pm_swA 12 (d + 6) 164 0 [(0, .ref 3035), (1, .int (Int32.ofInt j))] [] h = some (some (.int (Int32.ofInt c)), h) := by
  obtain rfl : j = 0 := by omega
  exact ⟨_, by omega, s_164_35_0 d h⟩
set_option maxRecDepth 100000 in
theorem s_164_36_0 (d : Nat) (h : pm_H) : pm_run pm_swA 12 (d + 6) 164 0 [(0, .ref 3036), (1, .int (Int32.ofInt (0 : Int)))] [] h = some (some (.int (Int32.ofInt (125 : Int))), h) := by rfl
theorem t_164_36 (d : Nat) (h : pm_H) (j : Int) (h0 : 0 ≤ j) (h1 : j < 1) : ∃ c : Int, (0 ≤ c ∧ c < 65536) ∧ pm_run pm_swA 12 (d + 6) 164 0 [(0, .ref 3036), (1, .int (Int32.ofInt j))] [] h = some (some (.int (Int32.ofInt c)), h) := by
  obtain rfl : j = 0 := by omega
  exact ⟨_, by omega, s_164_36_0 d h⟩
set_option maxRecDepth 100000 in
theorem s_164_37_0 (d : Nat) (h : pm_H) : pm_run pm_swA 12 (d + 6) 164 0 [(0, .ref 3037), (1, .int (Int32.ofInt (0 : Int)))] [] h = some (some (.int (Int32.ofInt (59 : Int))), h) := by rfl
theorem t_164_37 (d : Nat) (h : pm_H) (j : Int) (h0 : 0 ≤ j) (h1 : j < 1) : ∃ c : Int, (0 ≤ c ∧ c < 65536) ∧ pm_run pm_swA 12 (d + 6) 164 0 [(0, .ref 3037), (1, .int (Int32.ofInt j))] [] h = some (some (.int (Int32.ofInt c)), h) := by
  obtain rfl : j = 0 := by omega
  exact ⟨_, by omega, s_164_37_0 d h⟩
set_option maxRecDepth 100000 in
theorem s_164_38_0 (d : Nat) (h : pm_H) : pm_run pm_swA 12 (d + 6) 164 0 [(0, .ref 3038), (1, .int (Int32.ofInt (0 : Int)))] [] h = some (some (.int (Int32.ofInt (44 : Int))), h) := by rfl
theorem t_164_38 (d : Nat) (h : pm_H) (j : Int) (h0 : 0 ≤ j) (h1 : j < 1) : ∃ c : Int, (0 ≤ c ∧ c < 65536) ∧ pm_run pm_swA 12 (d + 6) 164 0 [(0, .ref 3038), (1, .int (Int32.ofInt j))] [] h = some (some (.int (Int32.ofInt c)), h) := by
  obtain rfl : j = 0 := by omega
  exact ⟨_, by omega, s_164_38_0 d h⟩
theorem s_164 (d : Nat) (h : pm_H) (j : Int) (h0 : 0 ≤ j) (s : Nat) (hs : 3000 ≤ s ∧ s < 3039) (h1 : j < slen s) : ∃ c : Int, (0 ≤ c ∧ c < 65536) ∧ pm_run pm_swA 12 (d + 6) 164 0 [(0, .ref s), (1, .int (Int32.ofInt j))] [] h = some (some (.int (Int32.ofInt c)), h) := by
  rcases (by omega : s = 3000 ∨ s = 3001 ∨ s = 3002 ∨ s = 3003 ∨ s = 3004 ∨ s = 3005 ∨ s = 3006 ∨ s = 3007 ∨ s = 3008 ∨ s = 3009 ∨ s = 3010 ∨ s = 3011 ∨ s = 3012 ∨ s = 3013 ∨ s = 3014 ∨ s = 3015 ∨ s = 3016 ∨ s = 3017 ∨ s = 3018 ∨ s = 3019 ∨ s = 3020 ∨ s = 3021 ∨ s = 3022 ∨ s = 3023 ∨ s = 3024 ∨ s = 3025 ∨ s = 3026 ∨ s = 3027 ∨ s = 3028 ∨ s = 3029 ∨ s = 3030 ∨ s = 3031 ∨ s = 3032 ∨ s = 3033 ∨ s = 3034 ∨ s = 3035 ∨ s = 3036 ∨ s = 3037 ∨ s = 3038) with rfl | rfl | rfl | rfl | rfl | rfl | rfl | rfl | rfl | rfl | rfl | rfl | rfl | rfl | rfl | rfl | rfl | rfl | rfl | rfl | rfl | rfl | rfl | rfl | rfl | rfl | rfl | rfl | rfl | rfl | rfl | rfl | rfl | rfl | rfl | rfl | rfl | rfl | rfl
  · exfalso
    have e : slen 3000 = 0 := rfl
    omega
  · exfalso
    have e : slen 3001 = 0 := rfl
    omega
  · exfalso
    have e : slen 3002 = 0 := rfl
    omega
  · exfalso
    have e : slen 3003 = 0 := rfl
    omega
  · exact t_164_4 d h j h0 (by have e : slen 3004 = 3 := rfl; omega)
  · exact t_164_5 d h j h0 (by have e : slen 3005 = 3 := rfl; omega)
  · exact t_164_6 d h j h0 (by have e : slen 3006 = 3 := rfl; omega)
  · exact t_164_7 d h j h0 (by have e : slen 3007 = 6 := rfl; omega)
  · exact t_164_8 d h j h0 (by have e : slen 3008 = 2 := rfl; omega)
  · exact t_164_9 d h j h0 (by have e : slen 3009 = 4 := rfl; omega)
  · exact t_164_10 d h j h0 (by have e : slen 3010 = 5 := rfl; omega)
  · exact t_164_11 d h j h0 (by have e : slen 3011 = 4 := rfl; omega)
  · exact t_164_12 d h j h0 (by have e : slen 3012 = 1 := rfl; omega)
  · exact t_164_13 d h j h0 (by have e : slen 3013 = 1 := rfl; omega)
  · exact t_164_14 d h j h0 (by have e : slen 3014 = 1 := rfl; omega)
  · exact t_164_15 d h j h0 (by have e : slen 3015 = 2 := rfl; omega)
  · exact t_164_16 d h j h0 (by have e : slen 3016 = 2 := rfl; omega)
  · exact t_164_17 d h j h0 (by have e : slen 3017 = 1 := rfl; omega)
  · exact t_164_18 d h j h0 (by have e : slen 3018 = 2 := rfl; omega)
  · exact t_164_19 d h j h0 (by have e : slen 3019 = 2 := rfl; omega)
  · exact t_164_20 d h j h0 (by have e : slen 3020 = 2 := rfl; omega)
  · exact t_164_21 d h j h0 (by have e : slen 3021 = 1 := rfl; omega)
  · exact t_164_22 d h j h0 (by have e : slen 3022 = 1 := rfl; omega)
  · exact t_164_23 d h j h0 (by have e : slen 3023 = 1 := rfl; omega)
  · exact t_164_24 d h j h0 (by have e : slen 3024 = 1 := rfl; omega)
  · exact t_164_25 d h j h0 (by have e : slen 3025 = 1 := rfl; omega)
  · exact t_164_26 d h j h0 (by have e : slen 3026 = 1 := rfl; omega)
  · exact t_164_27 d h j h0 (by have e : slen 3027 = 1 := rfl; omega)
  · exact t_164_28 d h j h0 (by have e : slen 3028 = 1 := rfl; omega)
  · exact t_164_29 d h j h0 (by have e : slen 3029 = 1 := rfl; omega)
  · exact t_164_30 d h j h0 (by have e : slen 3030 = 1 := rfl; omega)
  · exact t_164_31 d h j h0 (by have e : slen 3031 = 1 := rfl; omega)
  · exact t_164_32 d h j h0 (by have e : slen 3032 = 1 := rfl; omega)
  · exact t_164_33 d h j h0 (by have e : slen 3033 = 1 := rfl; omega)
  · exact t_164_34 d h j h0 (by have e : slen 3034 = 1 := rfl; omega)
  · exact t_164_35 d h j h0 (by have e : slen 3035 = 1 := rfl; omega)
  · exact t_164_36 d h j h0 (by have e : slen 3036 = 1 := rfl; omega)
  · exact t_164_37 d h j h0 (by have e : slen 3037 = 1 := rfl; omega)
  · exact t_164_38 d h j h0 (by have e : slen 3038 = 1 := rfl; omega)
theorem c_164 {d : Nat} {A B Y : zF} {K : Nat} {T : zT} {s : Nat} {x : Int} {Q : Int → zF → zF → zF → Nat → zT → Prop} (hd : 6 ≤ d) (p1 : 3000 ≤ s ∧ s < 3039) (p2 : 0 ≤ x ∧ x < slen s) (q : ∀ (r : Int), (0 ≤ r ∧ r < 65536) → Q r A B Y K T) : pzI d 164 [.inr (.inr s), .inl x] (A, B, Y, K, T) Q := by
  obtain ⟨e, rfl⟩ : ∃ e, d = e + 6 := ⟨d - 6, by omega⟩
  obtain ⟨c, hc, hr⟩ := s_164 e (zc (A, B, Y, K, T)) x p2.1 s p1 p2.2
  exact ⟨12, _, _, hr, c, A, B, Y, K, T, rfl, rfl, q _ hc⟩
set_option maxHeartbeats 400000 in
theorem c_168 {d : Nat} {A B Y : zF} {K : Nat} {T : zT} {x : Int} {y : Int} {w : Int} {Q : zF → zF → zF → Nat → zT → Prop} (hd : 0 ≤ d) (p1 : 0 ≤ y ∧ y ≤ w ∧ w ≤ x ∧ x ≤ 2147483647) (q : Q A B Y K T) : pzV d 168 [.inl x, .inl y, .inl w] (A, B, Y, K, T) Q := by
  refine pzV_of 9 [(5, []), (50, []), (64, [])] [] ?_
  show ((-2147483648 ≤ y ∧ y < 2147483648) ∧ (-2147483648 ≤ w ∧ w < 2147483648) ∧ (y ≤ w → ((-2147483648 ≤ y ∧ y < 2147483648) ∧ ((0 : Int) ≤ y → ((-2147483648 ≤ w ∧ w < 2147483648) ∧ (-2147483648 ≤ x ∧ x < 2147483648) ∧ (w ≤ x → Q A B Y K T) ∧ (x < w → pq d 168 64 [some (.inl x), some (.inl y), some (.inl w)] [] (A, B, Y, K, T) (qV Q)))) ∧ (y < (0 : Int) → pq d 168 50 [some (.inl x), some (.inl y), some (.inl w)] [] (A, B, Y, K, T) (qV Q)))) ∧ (w < y → pq d 168 5 [some (.inl x), some (.inl y), some (.inl w)] [] (A, B, Y, K, T) (qV Q)))
  refine ⟨by omega, by omega, fun z1 => ?_, fun z1 => ?_⟩
  · skip
    refine ⟨by omega, fun z2 => ?_, fun z2 => ?_⟩
    · skip
      refine ⟨by omega, by omega, fun z3 => ?_, fun z3 => ?_⟩
      · skip
        exact q 
      · skip
        exfalso
        omega
    · skip
      exfalso
      omega
  · skip
    exfalso
    omega

set_option maxHeartbeats 400000 in
theorem c_169_29 {m : Nat} {sz : Int} {d : Nat} {A B Y : zF} {K : Nat} {T : zT} {x : Int} {Q : zF → zF → zF → Nat → zT → Prop} (hd : 0 ≤ d) (hI : XI m sz A K T) (p1 : -2147483648 ≤ x ∧ x ≤ 2147483647) (q : ∀ (A' : zF) (K' : Nat) (T' : zT), XI m sz A' K' T' → Q A' B Y K' T') : pzV d 169 [.inr (.inr (29 : Nat)), .inl x] (A, B, Y, K, T) Q := by
  have L5 : ∀ (n : Nat) (k : Int) (A2 : zF) (K2 : Nat) (T2 : zT), XI m sz A2 K2 T2 → (0 ≤ k ∧ k ≤ 2560) → (2561 - k) < (n : Int) → pq d 169 5 [some (.inr (.inr (29 : Nat))), some (.inl x), some (.inl k), some (.inl (2560 : Int))] [] (A2, B, Y, K2, T2) (qV Q) := by
    intro n
    induction n with
    | zero =>
      intro k A2 K2 T2 hI2 i0 hm
      exfalso
      omega
    | succ n ih =>
      intro k A2 K2 T2 hI2 i0 hm
      refine pq_of 9 [(5, [])] [] ?_
      show ((-2147483648 ≤ k ∧ k < 2147483648) ∧ (-2147483648 ≤ (2560 : Int) ∧ (2560 : Int) < 2147483648) ∧ ((2560 : Int) ≤ k → Q A2 B Y K2 T2) ∧ (k < (2560 : Int) → ((0 ≤ k ∧ k < (2560 : Int)) ∧ pq d 169 5 [some (.inr (.inr (29 : Nat))), some (.inl x), some (.inl (k + (1 : Int))), some (.inl (2560 : Int))] [] ((zu A2 29 (k).toNat x), B, Y, K2, T2) (qV Q))))
      refine ⟨by omega, by omega, fun z1 => ?_, fun z1 => ?_⟩
      · skip
        exact q _ _ _ hI2 
      · skip
        refine ⟨by omega, ?_⟩
        have hI2 := XI_w_29 (j := (k).toNat) (v := x) hI2 (by omega) (by omega)
        exact ih ((k + (1 : Int))) _ _ _ hI2 (show 0 ≤ (k + (1 : Int)) ∧ (k + (1 : Int)) ≤ 2560 from by omega) (by show 2561 - (k + (1 : Int)) < _; omega)
  refine pzV_of 5 [(5, [])] [] ?_
  show pq d 169 5 [some (.inr (.inr (29 : Nat))), some (.inl x), some (.inl (0 : Int)), some (.inl (2560 : Int))] [] (A, B, Y, K, T) (qV Q)
  exact L5 ((2561 - (0 : Int)) + 1).toNat ((0 : Int)) _ _ _ hI (show 0 ≤ (0 : Int) ∧ (0 : Int) ≤ 2560 from by omega) (by show 2561 - (0 : Int) < _; omega)

set_option maxHeartbeats 400000 in
theorem c_170_32 {m : Nat} {sz : Int} {d : Nat} {A B Y : zF} {K : Nat} {T : zT} {x : Int} {y : Int} {w : Int} {Q : zF → zF → zF → Nat → zT → Prop} (hd : 1 ≤ d) (hI : XI m sz A K T) (p1 : 0 ≤ x ∧ x ≤ y ∧ y ≤ 2632) (p2 : -2147483648 ≤ w ∧ w ≤ 2147483647) (q : ∀ (A' : zF) (K' : Nat) (T' : zT), XI m sz A' K' T' → Q A' B Y K' T') : pzV d 170 [.inr (.inr (32 : Nat)), .inl x, .inl y, .inl w] (A, B, Y, K, T) Q := by
  have L10 : ∀ (n : Nat) (k : Int) (A2 : zF) (K2 : Nat) (T2 : zT), XI m sz A2 K2 T2 → (0 ≤ k ∧ k ≤ 2632) → (2633 - k) < (n : Int) → pq d 170 10 [some (.inr (.inr (32 : Nat))), some (.inl x), some (.inl y), some (.inl w), some (.inl k)] [] (A2, B, Y, K2, T2) (qV Q) := by
    intro n
    induction n with
    | zero =>
      intro k A2 K2 T2 hI2 i0 hm
      exfalso
      omega
    | succ n ih =>
      intro k A2 K2 T2 hI2 i0 hm
      refine pq_of 9 [(10, [])] [] ?_
      show ((-2147483648 ≤ k ∧ k < 2147483648) ∧ (-2147483648 ≤ y ∧ y < 2147483648) ∧ (y ≤ k → Q A2 B Y K2 T2) ∧ (k < y → ((0 ≤ k ∧ k < (2632 : Int)) ∧ pq d 170 10 [some (.inr (.inr (32 : Nat))), some (.inl x), some (.inl y), some (.inl w), some (.inl (k + (1 : Int)))] [] ((zu A2 32 (k).toNat w), B, Y, K2, T2) (qV Q))))
      refine ⟨by omega, by omega, fun z1 => ?_, fun z1 => ?_⟩
      · skip
        exact q _ _ _ hI2 
      · skip
        refine ⟨by omega, ?_⟩
        have hI2 := XI_w_32 (j := (k).toNat) (v := w) hI2 (by omega) (by omega)
        exact ih ((k + (1 : Int))) _ _ _ hI2 (show 0 ≤ (k + (1 : Int)) ∧ (k + (1 : Int)) ≤ 2632 from by omega) (by show 2633 - (k + (1 : Int)) < _; omega)
  refine pzV_of 7 [(10, [])] [] ?_
  show (0 < d ∧ pzV (d - 1) 168 [.inl (2632 : Int), .inl x, .inl y] (A, B, Y, K, T) (fun Av1 Bv1 Yv1 Kv1 Tv1 => pq d 170 10 [some (.inr (.inr (32 : Nat))), some (.inl x), some (.inl y), some (.inl w), some (.inl x)] [] (Av1, Bv1, Yv1, Kv1, Tv1) (qV Q)))
  refine ⟨by omega, c_168 (by omega) (show 0 ≤ x ∧ x ≤ y ∧ y ≤ (2632 : Int) ∧ (2632 : Int) ≤ 2147483647 from by omega) (?_)⟩
  exact L10 ((2633 - x) + 1).toNat (x) _ _ _ hI (show 0 ≤ x ∧ x ≤ 2632 from by omega) (by show 2633 - x < _; omega)

set_option maxHeartbeats 400000 in
theorem c_170_36 {m : Nat} {sz : Int} {d : Nat} {A B Y : zF} {K : Nat} {T : zT} {x : Int} {y : Int} {w : Int} {Q : zF → zF → zF → Nat → zT → Prop} (hd : 1 ≤ d) (hI : XI m sz A K T) (p1 : 0 ≤ x ∧ x ≤ y ∧ y ≤ 2632) (p2 : -2147483648 ≤ w ∧ w ≤ 2147483647) (q : ∀ (A' : zF) (K' : Nat) (T' : zT), XI m sz A' K' T' → Q A' B Y K' T') : pzV d 170 [.inr (.inr (36 : Nat)), .inl x, .inl y, .inl w] (A, B, Y, K, T) Q := by
  have L10 : ∀ (n : Nat) (k : Int) (A2 : zF) (K2 : Nat) (T2 : zT), XI m sz A2 K2 T2 → (0 ≤ k ∧ k ≤ 2632) → (2633 - k) < (n : Int) → pq d 170 10 [some (.inr (.inr (36 : Nat))), some (.inl x), some (.inl y), some (.inl w), some (.inl k)] [] (A2, B, Y, K2, T2) (qV Q) := by
    intro n
    induction n with
    | zero =>
      intro k A2 K2 T2 hI2 i0 hm
      exfalso
      omega
    | succ n ih =>
      intro k A2 K2 T2 hI2 i0 hm
      refine pq_of 9 [(10, [])] [] ?_
      show ((-2147483648 ≤ k ∧ k < 2147483648) ∧ (-2147483648 ≤ y ∧ y < 2147483648) ∧ (y ≤ k → Q A2 B Y K2 T2) ∧ (k < y → ((0 ≤ k ∧ k < (2632 : Int)) ∧ pq d 170 10 [some (.inr (.inr (36 : Nat))), some (.inl x), some (.inl y), some (.inl w), some (.inl (k + (1 : Int)))] [] ((zu A2 36 (k).toNat w), B, Y, K2, T2) (qV Q))))
      refine ⟨by omega, by omega, fun z1 => ?_, fun z1 => ?_⟩
      · skip
        exact q _ _ _ hI2 
      · skip
        refine ⟨by omega, ?_⟩
        have hI2 := XI_w_36 (j := (k).toNat) (v := w) hI2 (by omega) (by omega)
        exact ih ((k + (1 : Int))) _ _ _ hI2 (show 0 ≤ (k + (1 : Int)) ∧ (k + (1 : Int)) ≤ 2632 from by omega) (by show 2633 - (k + (1 : Int)) < _; omega)
  refine pzV_of 7 [(10, [])] [] ?_
  show (0 < d ∧ pzV (d - 1) 168 [.inl (2632 : Int), .inl x, .inl y] (A, B, Y, K, T) (fun Av1 Bv1 Yv1 Kv1 Tv1 => pq d 170 10 [some (.inr (.inr (36 : Nat))), some (.inl x), some (.inl y), some (.inl w), some (.inl x)] [] (Av1, Bv1, Yv1, Kv1, Tv1) (qV Q)))
  refine ⟨by omega, c_168 (by omega) (show 0 ≤ x ∧ x ≤ y ∧ y ≤ (2632 : Int) ∧ (2632 : Int) ≤ 2147483647 from by omega) (?_)⟩
  exact L10 ((2633 - x) + 1).toNat (x) _ _ _ hI (show 0 ≤ x ∧ x ≤ 2632 from by omega) (by show 2633 - x < _; omega)

