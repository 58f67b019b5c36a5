/-! The class: names, the program, kinds -/
set_option maxHeartbeats 400000 in
theorem c_172 {d : Nat} {A B Y : zF} {K : Nat} {T : zT} {x : Int} {y : Int} {Q : Int → zF → zF → zF → Nat → zT → Prop} (hd : 0 ≤ d) (p1 : -2147483648 ≤ x ∧ x ≤ 2147483647) (p2 : -2147483648 ≤ y ∧ y ≤ 2147483647) (q : ∀ (r : Int), ((r = x ∨ r = y) ∧ r ≤ x ∧ r ≤ y) → Q r A B Y K T) : pzI d 172 [.inl x, .inl y] (A, B, Y, K, T) Q := by
  refine pzI_of 6 [] [] ?_
  show ((-2147483648 ≤ x ∧ x < 2147483648) ∧ (-2147483648 ≤ y ∧ y < 2147483648) ∧ (y < x → Q y A B Y K T) ∧ (x ≤ y → Q x A B Y K T))
  refine ⟨by omega, by omega, fun z1 => ?_, fun z1 => ?_⟩
  · skip
    exact q _ (show (y = x ∨ y = y) ∧ y ≤ x ∧ y ≤ y from by omega)
  · skip
    exact q _ (show (x = x ∨ x = y) ∧ x ≤ x ∧ x ≤ y from by omega)

set_option maxHeartbeats 400000 in
theorem c_171 {d : Nat} {A B Y : zF} {K : Nat} {T : zT} {x : Int} {y : Int} {Q : Int → zF → zF → zF → Nat → zT → Prop} (hd : 0 ≤ d) (p1 : -2147483648 ≤ x ∧ x ≤ 2147483647) (p2 : -2147483648 ≤ y ∧ y ≤ 2147483647) (q : ∀ (r : Int), ((r = x ∨ r = y) ∧ x ≤ r ∧ y ≤ r) → Q r A B Y K T) : pzI d 171 [.inl x, .inl y] (A, B, Y, K, T) Q := by
  refine pzI_of 6 [] [] ?_
  show ((-2147483648 ≤ x ∧ x < 2147483648) ∧ (-2147483648 ≤ y ∧ y < 2147483648) ∧ (x < y → Q y A B Y K T) ∧ (y ≤ x → Q x A B Y K T))
  refine ⟨by omega, by omega, fun z1 => ?_, fun z1 => ?_⟩
  · skip
    exact q _ (show (y = x ∨ y = y) ∧ x ≤ y ∧ y ≤ y from by omega)
  · skip
    exact q _ (show (x = x ∨ x = y) ∧ x ≤ x ∧ y ≤ x from by omega)

set_option maxHeartbeats 400000 in
theorem c_71 {d : Nat} {A B Y : zF} {K : Nat} {T : zT} {x : Int} {y : Int} {Q : Int → zF → zF → zF → Nat → zT → Prop} (hd : 0 ≤ d)  (q : ∀ (r : Int), (r = x * 64 + y) → Q r A B Y K T) : pzI d 71 [.inl x, .inl y] (A, B, Y, K, T) Q := by
  refine pzI_of 6 [] [] ?_
  show Q ((x * (64 : Int)) + y) A B Y K T
  exact q _ (show ((x * (64 : Int)) + y) = x * 64 + y from by omega)

set_option maxHeartbeats 400000 in
theorem c_72 {d : Nat} {A B Y : zF} {K : Nat} {T : zT} {x : Int} {y : Int} {Q : Int → zF → zF → zF → Nat → zT → Prop} (hd : 0 ≤ d)  (q : ∀ (r : Int), (r = 2560 + x * 12 + y) → Q r A B Y K T) : pzI d 72 [.inl x, .inl y] (A, B, Y, K, T) Q := by
  refine pzI_of 8 [] [] ?_
  show Q (((2560 : Int) + (x * (12 : Int))) + y) A B Y K T
  exact q _ (show (((2560 : Int) + (x * (12 : Int))) + y) = 2560 + x * 12 + y from by omega)

set_option maxHeartbeats 400000 in
theorem c_84 {d : Nat} {A B Y : zF} {K : Nat} {T : zT} {kd : Nat} {Q : Int → zF → zF → zF → Nat → zT → Prop} (hd : 0 ≤ d) (p1 : 1000 ≤ kd ∧ kd < 1039) (q : ∀ (r : Int), (r = 0 ∨ r = 1) → Q r A B Y K T) : pzI d 84 [.inr (.inr kd)] (A, B, Y, K, T) Q := by
  refine pzI_of 15 [] [] ?_
  show ((1000 ≤ kd ∧ kd < 1064) ∧ (1000 ≤ (1000 : Nat) ∧ (1000 : Nat) < 1064) ∧ (kd = (1000 : Nat) → (((1 : Int) = 0 ∨ (1 : Int) = 1) ∧ Q (1 : Int) A B Y K T)) ∧ (kd ≠ (1000 : Nat) → ((1000 ≤ kd ∧ kd < 1064) ∧ (1000 ≤ (1008 : Nat) ∧ (1008 : Nat) < 1064) ∧ (kd = (1008 : Nat) → (((1 : Int) = 0 ∨ (1 : Int) = 1) ∧ Q (1 : Int) A B Y K T)) ∧ (kd ≠ (1008 : Nat) → ((1000 ≤ kd ∧ kd < 1064) ∧ (1000 ≤ (1010 : Nat) ∧ (1010 : Nat) < 1064) ∧ (kd = (1010 : Nat) → (((1 : Int) = 0 ∨ (1 : Int) = 1) ∧ Q (1 : Int) A B Y K T)) ∧ (kd ≠ (1010 : Nat) → ((1000 ≤ kd ∧ kd < 1064) ∧ (1000 ≤ (1011 : Nat) ∧ (1011 : Nat) < 1064) ∧ (kd ≠ (1011 : Nat) → (((0 : Int) = 0 ∨ (0 : Int) = 1) ∧ Q (0 : Int) A B Y K T)) ∧ (kd = (1011 : Nat) → (((1 : Int) = 0 ∨ (1 : Int) = 1) ∧ Q (1 : Int) A B Y K T)))))))))
  refine ⟨by omega, by omega, fun z1 => ?_, fun z1 => ?_⟩
  · skip
    exact ⟨by omega, q _ (show (1 : Int) = 0 ∨ (1 : Int) = 1 from by omega)⟩
  · skip
    refine ⟨by omega, by omega, fun z2 => ?_, fun z2 => ?_⟩
    · skip
      exact ⟨by omega, q _ (show (1 : Int) = 0 ∨ (1 : Int) = 1 from by omega)⟩
    · skip
      refine ⟨by omega, by omega, fun z3 => ?_, fun z3 => ?_⟩
      · skip
        exact ⟨by omega, q _ (show (1 : Int) = 0 ∨ (1 : Int) = 1 from by omega)⟩
      · skip
        refine ⟨by omega, by omega, fun z4 => ?_, fun z4 => ?_⟩
        · skip
          exact ⟨by omega, q _ (show (0 : Int) = 0 ∨ (0 : Int) = 1 from by omega)⟩
        · skip
          exact ⟨by omega, q _ (show (1 : Int) = 0 ∨ (1 : Int) = 1 from by omega)⟩

set_option maxHeartbeats 400000 in
theorem c_86 {d : Nat} {A B Y : zF} {K : Nat} {T : zT} {kd : Nat} {Q : Int → zF → zF → zF → Nat → zT → Prop} (hd : 0 ≤ d) (p1 : 1000 ≤ kd ∧ kd < 1039) (q : ∀ (r : Int), (r = 0 ∨ r = 1) → Q r A B Y K T) : pzI d 86 [.inr (.inr kd)] (A, B, Y, K, T) Q := by
  refine pzI_of 9 [] [] ?_
  show ((1000 ≤ kd ∧ kd < 1064) ∧ (1000 ≤ (1004 : Nat) ∧ (1004 : Nat) < 1064) ∧ (kd = (1004 : Nat) → (((1 : Int) = 0 ∨ (1 : Int) = 1) ∧ Q (1 : Int) A B Y K T)) ∧ (kd ≠ (1004 : Nat) → ((1000 ≤ kd ∧ kd < 1064) ∧ (1000 ≤ (1005 : Nat) ∧ (1005 : Nat) < 1064) ∧ (kd ≠ (1005 : Nat) → (((0 : Int) = 0 ∨ (0 : Int) = 1) ∧ Q (0 : Int) A B Y K T)) ∧ (kd = (1005 : Nat) → (((1 : Int) = 0 ∨ (1 : Int) = 1) ∧ Q (1 : Int) A B Y K T)))))
  refine ⟨by omega, by omega, fun z1 => ?_, fun z1 => ?_⟩
  · skip
    exact ⟨by omega, q _ (show (1 : Int) = 0 ∨ (1 : Int) = 1 from by omega)⟩
  · skip
    refine ⟨by omega, by omega, fun z2 => ?_, fun z2 => ?_⟩
    · skip
      exact ⟨by omega, q _ (show (0 : Int) = 0 ∨ (0 : Int) = 1 from by omega)⟩
    · skip
      exact ⟨by omega, q _ (show (1 : Int) = 0 ∨ (1 : Int) = 1 from by omega)⟩

set_option maxHeartbeats 400000 in
theorem c_85 {d : Nat} {A B Y : zF} {K : Nat} {T : zT} {kd : Nat} {Q : Int → zF → zF → zF → Nat → zT → Prop} (hd : 1 ≤ d) (p1 : 1000 ≤ kd ∧ kd < 1039) (q : ∀ (r : Int), (r = 0 ∨ r = 1) → Q r A B Y K T) : pzI d 85 [.inr (.inr kd)] (A, B, Y, K, T) Q := by
  refine pzI_of 9 [] [] ?_
  show ((1000 ≤ kd ∧ kd < 1064) ∧ (1000 ≤ (1006 : Nat) ∧ (1006 : Nat) < 1064) ∧ (kd = (1006 : Nat) → (((1 : Int) = 0 ∨ (1 : Int) = 1) ∧ Q (1 : Int) A B Y K T)) ∧ (kd ≠ (1006 : Nat) → ((1000 ≤ kd ∧ kd < 1039) ∧ (0 < d ∧ pzI (d - 1) 86 [.inr (.inr kd)] (A, B, Y, K, T) (fun nv1 Av1 Bv1 Yv1 Kv1 Tv1 => ((-2147483648 ≤ nv1 ∧ nv1 < 2147483648) ∧ (nv1 = (0 : Int) → (((0 : Int) = 0 ∨ (0 : Int) = 1) ∧ Q (0 : Int) Av1 Bv1 Yv1 Kv1 Tv1)) ∧ (nv1 ≠ (0 : Int) → (((1 : Int) = 0 ∨ (1 : Int) = 1) ∧ Q (1 : Int) Av1 Bv1 Yv1 Kv1 Tv1))))))))
  refine ⟨by omega, by omega, fun z1 => ?_, fun z1 => ?_⟩
  · skip
    exact ⟨by omega, q _ (show (1 : Int) = 0 ∨ (1 : Int) = 1 from by omega)⟩
  · skip
    refine ⟨by omega, by omega, c_86 (by omega) (show 1000 ≤ kd ∧ kd < 1039 from by omega) (fun nv1 xp1_0 => ?_)⟩
    replace xp1_0 : nv1 = 0 ∨ nv1 = 1 := xp1_0
    refine ⟨by omega, fun z2 => ?_, fun z2 => ?_⟩
    · skip
      exact ⟨by omega, q _ (show (0 : Int) = 0 ∨ (0 : Int) = 1 from by omega)⟩
    · skip
      exact ⟨by omega, q _ (show (1 : Int) = 0 ∨ (1 : Int) = 1 from by omega)⟩

set_option maxHeartbeats 400000 in
theorem c_87 {d : Nat} {A B Y : zF} {K : Nat} {T : zT} {kd : Nat} {Q : Int → zF → zF → zF → Nat → zT → Prop} (hd : 0 ≤ d) (p1 : 1000 ≤ kd ∧ kd < 1039) (q : ∀ (r : Int), (0 ≤ r ∧ r ≤ 29) → Q r A B Y K T) : pzI d 87 [.inr (.inr kd)] (A, B, Y, K, T) Q := by
  refine pzI_of 12 [] [] ?_
  show ((1000 ≤ kd ∧ kd < 1064) ∧ (1000 ≤ (1022 : Nat) ∧ (1022 : Nat) < 1064) ∧ (kd ≠ (1022 : Nat) → ((1000 ≤ kd ∧ kd < 1064) ∧ (1000 ≤ (1026 : Nat) ∧ (1026 : Nat) < 1064) ∧ (kd ≠ (1026 : Nat) → ((1000 ≤ kd ∧ kd < 1064) ∧ (1000 ≤ (1027 : Nat) ∧ (1027 : Nat) < 1064) ∧ (kd ≠ (1027 : Nat) → Q (0 : Int) A B Y K T) ∧ (kd = (1027 : Nat) → Q (15 : Int) A B Y K T))) ∧ (kd = (1026 : Nat) → Q (14 : Int) A B Y K T))) ∧ (kd = (1022 : Nat) → Q (13 : Int) A B Y K T))
  refine ⟨by omega, by omega, fun z1 => ?_, fun z1 => ?_⟩
  · skip
    refine ⟨by omega, by omega, fun z2 => ?_, fun z2 => ?_⟩
    · skip
      refine ⟨by omega, by omega, fun z3 => ?_, fun z3 => ?_⟩
      · skip
        exact q _ (show 0 ≤ (0 : Int) ∧ (0 : Int) ≤ 29 from by omega)
      · skip
        exact q _ (show 0 ≤ (15 : Int) ∧ (15 : Int) ≤ 29 from by omega)
    · skip
      exact q _ (show 0 ≤ (14 : Int) ∧ (14 : Int) ≤ 29 from by omega)
  · skip
    exact q _ (show 0 ≤ (13 : Int) ∧ (13 : Int) ≤ 29 from by omega)

set_option maxHeartbeats 400000 in
theorem c_61_4 {m : Nat} {sz : Int} {d : Nat} {A B Y : zF} {K : Nat} {T : zT}  {Q : zF → zF → zF → Nat → zT → Prop} (hd : 0 ≤ d) (hI : XI m sz A K T)  (q : ∀ (A' : zF) (K' : Nat) (T' : zT), XI m sz A' K' T' → ((A' 4 4) = 0) → Q A' B Y K' T') : pzV d 61 [.inr (.inr (4 : Nat))] (A, B, Y, K, T) Q := by
  refine pzV_of 4 [] [] ?_
  show Q (zu A 4 4 (0 : Int)) B Y K T
  have hI1 := XI_z4 hI
  exact q _ _ _ hI1 (show (0 : Int) = 0 from by omega)

set_option maxHeartbeats 400000 in
theorem c_62_4 {m : Nat} {sz : Int} {d : Nat} {A B Y : zF} {K : Nat} {T : zT}  {Q : Int → zF → zF → zF → Nat → zT → Prop} (hd : 0 ≤ d) (hI : XI m sz A K T)  (q : ∀ (r : Int), ((r = 0 ∧ (A 4 4) < 40) ∨ r = 1) → Q r A B Y K T) : pzI d 62 [.inr (.inr (4 : Nat))] (A, B, Y, K, T) Q := by
  refine pzI_of 9 [] [] ?_
  show ((-2147483648 ≤ (A 4 4) ∧ (A 4 4) < 2147483648) ∧ (-2147483648 ≤ (40 : Int) ∧ (40 : Int) < 2147483648) ∧ ((A 4 4) < (40 : Int) → (((0 : Int) = 0 ∨ (0 : Int) = 1) ∧ Q (0 : Int) A B Y K T)) ∧ ((40 : Int) ≤ (A 4 4) → (((1 : Int) = 0 ∨ (1 : Int) = 1) ∧ Q (1 : Int) A B Y K T)))
  have f1 := XI_r_4_4 hI
  refine ⟨by omega, by omega, fun z2 => ?_, fun z2 => ?_⟩
  · skip
    exact ⟨by omega, q _ (show ((0 : Int) = 0 ∧ (A 4 4) < 40) ∨ (0 : Int) = 1 from by omega)⟩
  · skip
    exact ⟨by omega, q _ (show ((1 : Int) = 0 ∧ (A 4 4) < 40) ∨ (1 : Int) = 1 from by omega)⟩

set_option maxHeartbeats 400000 in
theorem c_63_4 {m : Nat} {sz : Int} {d : Nat} {A B Y : zF} {K : Nat} {T : zT} {x : Int} {Q : Int → zF → zF → zF → Nat → zT → Prop} (hd : 0 ≤ d) (hI : XI m sz A K T) (p1 : -2147483648 ≤ x ∧ x ≤ 2147483647) (q : ∀ (r : Int), ((r = 1 ∧ 0 ≤ x ∧ x < (A 4 4) ∧ x < 40) ∨ r = 0) → Q r A B Y K T) : pzI d 63 [.inr (.inr (4 : Nat)), .inl x] (A, B, Y, K, T) Q := by
  refine pzI_of 9 [] [] ?_
  show ((-2147483648 ≤ x ∧ x < 2147483648) ∧ (x < (0 : Int) → (((0 : Int) = 0 ∨ (0 : Int) = 1) ∧ Q (0 : Int) A B Y K T)) ∧ ((0 : Int) ≤ x → ((-2147483648 ≤ x ∧ x < 2147483648) ∧ (-2147483648 ≤ (A 4 4) ∧ (A 4 4) < 2147483648) ∧ ((A 4 4) ≤ x → (((0 : Int) = 0 ∨ (0 : Int) = 1) ∧ Q (0 : Int) A B Y K T)) ∧ (x < (A 4 4) → (((1 : Int) = 0 ∨ (1 : Int) = 1) ∧ Q (1 : Int) A B Y K T)))))
  refine ⟨by omega, fun z1 => ?_, fun z1 => ?_⟩
  · skip
    exact ⟨by omega, q _ (show ((0 : Int) = 1 ∧ 0 ≤ x ∧ x < (A 4 4) ∧ x < 40) ∨ (0 : Int) = 0 from by omega)⟩
  · skip
    have f2 := XI_r_4_4 hI
    refine ⟨by omega, by omega, fun z3 => ?_, fun z3 => ?_⟩
    · skip
      exact ⟨by omega, q _ (show ((0 : Int) = 1 ∧ 0 ≤ x ∧ x < (A 4 4) ∧ x < 40) ∨ (0 : Int) = 0 from by omega)⟩
    · skip
      exact ⟨by omega, q _ (show ((1 : Int) = 1 ∧ 0 ≤ x ∧ x < (A 4 4) ∧ x < 40) ∨ (1 : Int) = 0 from by omega)⟩

set_option maxHeartbeats 400000 in
theorem c_64_4 {m : Nat} {sz : Int} {d : Nat} {A B Y : zF} {K : Nat} {T : zT} {x : Int} {y : Int} {w : Int} {Q : zF → zF → zF → Nat → zT → Prop} (hd : 1 ≤ d) (hI : XI m sz A K T) (p1 : 0 ≤ x ∧ x ≤ 3000) (p2 : -3000 ≤ y ∧ y ≤ 3000) (p3 : x + y ≤ 3000) (p4 : w = 0 ∨ w = 1) (p5 : (m = 0 ∨ (A 19 6) = 0) → (A 8 (A 4 4).toNat) ≤ 64) (q : ∀ (A' : zF) (K' : Nat) (T' : zT), XI m sz A' K' T' → Q A' B Y K' T') : pzV d 64 [.inr (.inr (4 : Nat)), .inl x, .inl y, .inl w] (A, B, Y, K, T) Q := by
  refine pzV_of 28 [] [] ?_
  show (0 < d ∧ pzI (d - 1) 62 [.inr (.inr (4 : Nat))] (A, B, Y, K, T) (fun nv1 Av1 Bv1 Yv1 Kv1 Tv1 => ((-2147483648 ≤ nv1 ∧ nv1 < 2147483648) ∧ (nv1 = (0 : Int) → ((0 ≤ (Av1 4 4) ∧ (Av1 4 4) < (40 : Int)) ∧ ((0 ≤ (Av1 4 4) ∧ (Av1 4 4) < (40 : Int)) ∧ ((0 ≤ (Av1 4 4) ∧ (Av1 4 4) < (40 : Int)) ∧ (w = 0 ∨ w = 1) ∧ Q (zu (zu (zu (zu Av1 5 ((Av1 4 4)).toNat x) 6 ((Av1 4 4)).toNat y) 7 ((Av1 4 4)).toNat w) 4 4 ((Av1 4 4) + (1 : Int))) Bv1 Yv1 Kv1 Tv1)))) ∧ (nv1 ≠ (0 : Int) → Q Av1 Bv1 Yv1 Kv1 Tv1))))
  refine ⟨by omega, c_62_4 (by omega) hI  (fun nv1 xp1_0 => ?_)⟩
  replace xp1_0 : (nv1 = 0 ∧ (A 4 4) < 40) ∨ nv1 = 1 := xp1_0
  refine ⟨by omega, fun z1 => ?_, fun z1 => ?_⟩
  · skip
    have f2 := XI_r_4_4 hI
    refine ⟨by omega, ?_⟩
    refine ⟨by omega, ?_⟩
    refine ⟨by omega, by omega, ?_⟩
    have hI3 := XI_add_4 hI (p := x) (s := y) (b := w) (by omega) p1 p2 p3 (by omega) p5
    exact q _ _ _ hI3 
  · skip
    exact q _ _ _ hI 

set_option maxHeartbeats 400000 in
theorem c_66_4 {m : Nat} {sz : Int} {d : Nat} {A B Y : zF} {K : Nat} {T : zT} {x : Int} {y : Int} {w : Int} {Q : Int → zF → zF → zF → Nat → zT → Prop} (hd : 0 ≤ d) (hI : XI m sz A K T) (p1 : 0 ≤ x ∧ x ≤ 3000) (p2 : 0 ≤ y ∧ y ≤ 3000) (p3 : -3000 ≤ w ∧ w ≤ 3000) (q : ∀ (r : Int), (r = 0 ∨ r = 1) → Q r A B Y K T) : pzI d 66 [.inr (.inr (4 : Nat)), .inl x, .inl y, .inl w] (A, B, Y, K, T) Q := by
  have L27 : ∀ (n : Nat) (k : Int), (0 ≤ k ∧ k ≤ 3000) → (x + w ≤ 3000) → (y + w ≤ 3000) → (3001 - k) < (n : Int) → pq d 66 27 [some (.inr (.inr (4 : Nat))), some (.inl x), some (.inl y), some (.inl w), some (.inl k)] [] (A, B, Y, K, T) (qI Q) := by
    intro n
    induction n with
    | zero =>
      intro k i0 i1 i2 hm
      exfalso
      omega
    | succ n ih =>
      intro k i0 i1 i2 hm
      refine pq_of 18 [(27, [])] [] ?_
      show ((-2147483648 ≤ k ∧ k < 2147483648) ∧ (-2147483648 ≤ w ∧ w < 2147483648) ∧ (w ≤ k → (((1 : Int) = 0 ∨ (1 : Int) = 1) ∧ Q (1 : Int) A B Y K T)) ∧ (k < w → ((0 ≤ (x + k) ∧ (x + k) < (3000 : Int)) ∧ ((0 ≤ (y + k) ∧ (y + k) < (3000 : Int)) ∧ ((-2147483648 ≤ (A 3 ((x + k)).toNat) ∧ (A 3 ((x + k)).toNat) < 2147483648) ∧ (-2147483648 ≤ (A 3 ((y + k)).toNat) ∧ (A 3 ((y + k)).toNat) < 2147483648) ∧ ((A 3 ((x + k)).toNat) = (A 3 ((y + k)).toNat) → pq d 66 27 [some (.inr (.inr (4 : Nat))), some (.inl x), some (.inl y), some (.inl w), some (.inl (k + (1 : Int)))] [] (A, B, Y, K, T) (qI Q)) ∧ ((A 3 ((x + k)).toNat) ≠ (A 3 ((y + k)).toNat) → (((0 : Int) = 0 ∨ (0 : Int) = 1) ∧ Q (0 : Int) A B Y K T)))))))
      refine ⟨by omega, by omega, fun z1 => ?_, fun z1 => ?_⟩
      · skip
        exact ⟨by omega, q _ (show (1 : Int) = 0 ∨ (1 : Int) = 1 from by omega)⟩
      · skip
        refine ⟨by omega, ?_⟩
        have f2 := XI_r_3 hI (((x + k)).toNat)
        refine ⟨by omega, ?_⟩
        have f3 := XI_r_3 hI (((y + k)).toNat)
        refine ⟨by omega, by omega, fun z4 => ?_, fun z4 => ?_⟩
        · skip
          exact ih ((k + (1 : Int))) (show 0 ≤ (k + (1 : Int)) ∧ (k + (1 : Int)) ≤ 3000 from by omega) (show x + w ≤ 3000 from by omega) (show y + w ≤ 3000 from by omega) (by show 3001 - (k + (1 : Int)) < _; omega)
        · skip
          exact ⟨by omega, q _ (show (0 : Int) = 0 ∨ (0 : Int) = 1 from by omega)⟩
  refine pzI_of 16 [(27, [])] [] ?_
  show ((-2147483648 ≤ (x + w) ∧ (x + w) < 2147483648) ∧ (-2147483648 ≤ (3000 : Int) ∧ (3000 : Int) < 2147483648) ∧ ((3000 : Int) < (x + w) → (((0 : Int) = 0 ∨ (0 : Int) = 1) ∧ Q (0 : Int) A B Y K T)) ∧ ((x + w) ≤ (3000 : Int) → ((-2147483648 ≤ (y + w) ∧ (y + w) < 2147483648) ∧ (-2147483648 ≤ (3000 : Int) ∧ (3000 : Int) < 2147483648) ∧ ((y + w) ≤ (3000 : Int) → pq d 66 27 [some (.inr (.inr (4 : Nat))), some (.inl x), some (.inl y), some (.inl w), some (.inl (0 : Int))] [] (A, B, Y, K, T) (qI Q)) ∧ ((3000 : Int) < (y + w) → (((0 : Int) = 0 ∨ (0 : Int) = 1) ∧ Q (0 : Int) A B Y K T)))))
  refine ⟨by omega, by omega, fun z1 => ?_, fun z1 => ?_⟩
  · skip
    exact ⟨by omega, q _ (show (0 : Int) = 0 ∨ (0 : Int) = 1 from by omega)⟩
  · skip
    refine ⟨by omega, by omega, fun z2 => ?_, fun z2 => ?_⟩
    · skip
      exact L27 ((3001 - (0 : Int)) + 1).toNat ((0 : Int)) (show 0 ≤ (0 : Int) ∧ (0 : Int) ≤ 3000 from by omega) (show x + w ≤ 3000 from by omega) (show y + w ≤ 3000 from by omega) (by show 3001 - (0 : Int) < _; omega)
    · skip
      exact ⟨by omega, q _ (show (0 : Int) = 0 ∨ (0 : Int) = 1 from by omega)⟩

set_option maxHeartbeats 400000 in
theorem c_65_4 {m : Nat} {sz : Int} {d : Nat} {A B Y : zF} {K : Nat} {T : zT} {x : Int} {y : Int} {Q : Int → zF → zF → zF → Nat → zT → Prop} (hd : 1 ≤ d) (hI : XI m sz A K T) (p1 : 0 ≤ x ∧ x ≤ 3000) (p2 : -3000 ≤ y ∧ y ≤ 3000) (q : ∀ (r : Int), (-1 ≤ r ∧ r < 40) → Q r A B Y K T) : pzI d 65 [.inr (.inr (4 : Nat)), .inl x, .inl y] (A, B, Y, K, T) Q := by
  have L2 : ∀ (n : Nat) (k : Int), (0 ≤ k ∧ k ≤ 40) → (41 - k) < (n : Int) → pq d 65 2 [some (.inr (.inr (4 : Nat))), some (.inl x), some (.inl y), some (.inl k)] [] (A, B, Y, K, T) (qI Q) := by
    intro n
    induction n with
    | zero =>
      intro k i0 hm
      exfalso
      omega
    | succ n ih =>
      intro k i0 hm
      refine pq_of 21 [(2, [])] [] ?_
      show ((-2147483648 ≤ k ∧ k < 2147483648) ∧ (-2147483648 ≤ (A 4 4) ∧ (A 4 4) < 2147483648) ∧ ((A 4 4) ≤ k → Q (-1 : Int) A B Y K T) ∧ (k < (A 4 4) → ((0 ≤ k ∧ k < (40 : Int)) ∧ ((-2147483648 ≤ (A 6 (k).toNat) ∧ (A 6 (k).toNat) < 2147483648) ∧ (-2147483648 ≤ y ∧ y < 2147483648) ∧ ((A 6 (k).toNat) ≠ y → pq d 65 2 [some (.inr (.inr (4 : Nat))), some (.inl x), some (.inl y), some (.inl (k + (1 : Int)))] [] (A, B, Y, K, T) (qI Q)) ∧ ((A 6 (k).toNat) = y → ((0 ≤ k ∧ k < (40 : Int)) ∧ (0 < d ∧ pzI (d - 1) 66 [.inr (.inr (4 : Nat)), .inl (A 5 (k).toNat), .inl x, .inl y] (A, B, Y, K, T) (fun nv101 Av101 Bv101 Yv101 Kv101 Tv101 => ((-2147483648 ≤ nv101 ∧ nv101 < 2147483648) ∧ (nv101 = (0 : Int) → pq d 65 2 [some (.inr (.inr (4 : Nat))), some (.inl x), some (.inl y), some (.inl (k + (1 : Int)))] [] (Av101, Bv101, Yv101, Kv101, Tv101) (qI Q)) ∧ (nv101 ≠ (0 : Int) → Q k Av101 Bv101 Yv101 Kv101 Tv101))))))))))
      have f1 := XI_r_4_4 hI
      refine ⟨by omega, by omega, fun z2 => ?_, fun z2 => ?_⟩
      · skip
        exact q _ (show -1 ≤ (-1 : Int) ∧ (-1 : Int) < 40 from by omega)
      · skip
        refine ⟨by omega, ?_⟩
        have f3 := XI_r_6 hI ((k).toNat)
        refine ⟨by omega, by omega, fun z4 => ?_, fun z4 => ?_⟩
        · skip
          exact ih ((k + (1 : Int))) (show 0 ≤ (k + (1 : Int)) ∧ (k + (1 : Int)) ≤ 40 from by omega) (by show 41 - (k + (1 : Int)) < _; omega)
        · skip
          refine ⟨by omega, ?_⟩
          have f5 := XI_r_5 hI ((k).toNat)
          refine ⟨by omega, c_66_4 (by omega) hI (show 0 ≤ (A 5 (k).toNat) ∧ (A 5 (k).toNat) ≤ 3000 from by omega) (show 0 ≤ x ∧ x ≤ 3000 from by omega) (show -3000 ≤ y ∧ y ≤ 3000 from by omega) (fun nv101 xp101_0 => ?_)⟩
          replace xp101_0 : nv101 = 0 ∨ nv101 = 1 := xp101_0
          refine ⟨by omega, fun z6 => ?_, fun z6 => ?_⟩
          · skip
            exact ih ((k + (1 : Int))) (show 0 ≤ (k + (1 : Int)) ∧ (k + (1 : Int)) ≤ 40 from by omega) (by show 41 - (k + (1 : Int)) < _; omega)
          · skip
            exact q _ (show -1 ≤ k ∧ k < 40 from by omega)
  refine pzI_of 2 [(2, [])] [] ?_
  show pq d 65 2 [some (.inr (.inr (4 : Nat))), some (.inl x), some (.inl y), some (.inl (0 : Int))] [] (A, B, Y, K, T) (qI Q)
  exact L2 ((41 - (0 : Int)) + 1).toNat ((0 : Int)) (show 0 ≤ (0 : Int) ∧ (0 : Int) ≤ 40 from by omega) (by show 41 - (0 : Int) < _; omega)

set_option maxHeartbeats 400000 in
theorem c_67_4 {m : Nat} {sz : Int} {d : Nat} {A B Y : zF} {K : Nat} {T : zT} {x : Int} {Q : Int → zF → zF → zF → Nat → zT → Prop} (hd : 1 ≤ d) (hI : XI m sz A K T) (p1 : -2147483648 ≤ x ∧ x ≤ 2147483647) (q : ∀ (r : Int), (r = 0 ∨ r = 1) → Q r A B Y K T) : pzI d 67 [.inr (.inr (4 : Nat)), .inl x] (A, B, Y, K, T) Q := by
  refine pzI_of 12 [] [] ?_
  show (0 < d ∧ pzI (d - 1) 63 [.inr (.inr (4 : Nat)), .inl x] (A, B, Y, K, T) (fun nv1 Av1 Bv1 Yv1 Kv1 Tv1 => ((-2147483648 ≤ nv1 ∧ nv1 < 2147483648) ∧ (nv1 = (0 : Int) → (((0 : Int) = 0 ∨ (0 : Int) = 1) ∧ Q (0 : Int) Av1 Bv1 Yv1 Kv1 Tv1)) ∧ (nv1 ≠ (0 : Int) → ((0 ≤ x ∧ x < (40 : Int)) ∧ ((-2147483648 ≤ (Av1 7 (x).toNat) ∧ (Av1 7 (x).toNat) < 2147483648) ∧ ((Av1 7 (x).toNat) = (0 : Int) → (((0 : Int) = 0 ∨ (0 : Int) = 1) ∧ Q (0 : Int) Av1 Bv1 Yv1 Kv1 Tv1)) ∧ ((Av1 7 (x).toNat) ≠ (0 : Int) → (((1 : Int) = 0 ∨ (1 : Int) = 1) ∧ Q (1 : Int) Av1 Bv1 Yv1 Kv1 Tv1))))))))
  refine ⟨by omega, c_63_4 (by omega) hI (show -2147483648 ≤ x ∧ x ≤ 2147483647 from by omega) (fun nv1 xp1_0 => ?_)⟩
  replace xp1_0 : (nv1 = 1 ∧ 0 ≤ x ∧ x < (A 4 4) ∧ x < 40) ∨ nv1 = 0 := xp1_0
  refine ⟨by omega, fun z1 => ?_, fun z1 => ?_⟩
  · skip
    exact ⟨by omega, q _ (show (0 : Int) = 0 ∨ (0 : Int) = 1 from by omega)⟩
  · skip
    refine ⟨by omega, ?_⟩
    have f2 := XI_r_7 hI ((x).toNat)
    refine ⟨by omega, fun z3 => ?_, fun z3 => ?_⟩
    · skip
      exact ⟨by omega, q _ (show (0 : Int) = 0 ∨ (0 : Int) = 1 from by omega)⟩
    · skip
      exact ⟨by omega, q _ (show (1 : Int) = 0 ∨ (1 : Int) = 1 from by omega)⟩

set_option maxHeartbeats 400000 in
theorem c_68_4 {m : Nat} {sz : Int} {d : Nat} {A B Y : zF} {K : Nat} {T : zT}  {Q : Int → zF → zF → zF → Nat → zT → Prop} (hd : 0 ≤ d) (hI : XI m sz A K T)  (q : ∀ (r : Int), (0 ≤ r ∧ r ≤ 41) → Q r A B Y K T) : pzI d 68 [.inr (.inr (4 : Nat))] (A, B, Y, K, T) Q := by
  have L4 : ∀ (n : Nat) (e : Int) (k : Int), (0 ≤ e ∧ e ≤ k ∧ k ≤ 40) → (41 - k) < (n : Int) → pq d 68 4 [some (.inr (.inr (4 : Nat))), some (.inl e), some (.inl k)] [] (A, B, Y, K, T) (qI Q) := by
    intro n
    induction n with
    | zero =>
      intro e k i0 hm
      exfalso
      omega
    | succ n ih =>
      intro e k i0 hm
      refine pq_of 12 [(4, [])] [] ?_
      show ((-2147483648 ≤ k ∧ k < 2147483648) ∧ (-2147483648 ≤ (A 4 4) ∧ (A 4 4) < 2147483648) ∧ ((A 4 4) ≤ k → Q e A B Y K T) ∧ (k < (A 4 4) → ((0 ≤ k ∧ k < (40 : Int)) ∧ ((-2147483648 ≤ (A 7 (k).toNat) ∧ (A 7 (k).toNat) < 2147483648) ∧ ((A 7 (k).toNat) = (0 : Int) → pq d 68 4 [some (.inr (.inr (4 : Nat))), some (.inl e), some (.inl (k + (1 : Int)))] [] (A, B, Y, K, T) (qI Q)) ∧ ((A 7 (k).toNat) ≠ (0 : Int) → pq d 68 4 [some (.inr (.inr (4 : Nat))), some (.inl (e + (1 : Int))), some (.inl (k + (1 : Int)))] [] (A, B, Y, K, T) (qI Q))))))
      have f1 := XI_r_4_4 hI
      refine ⟨by omega, by omega, fun z2 => ?_, fun z2 => ?_⟩
      · skip
        exact q _ (show 0 ≤ e ∧ e ≤ 41 from by omega)
      · skip
        refine ⟨by omega, ?_⟩
        have f3 := XI_r_7 hI ((k).toNat)
        refine ⟨by omega, fun z4 => ?_, fun z4 => ?_⟩
        · skip
          exact ih (e) ((k + (1 : Int))) (show 0 ≤ e ∧ e ≤ (k + (1 : Int)) ∧ (k + (1 : Int)) ≤ 40 from by omega) (by show 41 - (k + (1 : Int)) < _; omega)
        · skip
          exact ih ((e + (1 : Int))) ((k + (1 : Int))) (show 0 ≤ (e + (1 : Int)) ∧ (e + (1 : Int)) ≤ (k + (1 : Int)) ∧ (k + (1 : Int)) ≤ 40 from by omega) (by show 41 - (k + (1 : Int)) < _; omega)
  refine pzI_of 4 [(4, [])] [] ?_
  show pq d 68 4 [some (.inr (.inr (4 : Nat))), some (.inl (0 : Int)), some (.inl (0 : Int))] [] (A, B, Y, K, T) (qI Q)
  exact L4 ((41 - (0 : Int)) + 1).toNat ((0 : Int)) ((0 : Int)) (show 0 ≤ (0 : Int) ∧ (0 : Int) ≤ (0 : Int) ∧ (0 : Int) ≤ 40 from by omega) (by show 41 - (0 : Int) < _; omega)

set_option maxHeartbeats 400000 in
theorem c_69_4 {m : Nat} {sz : Int} {d : Nat} {A B Y : zF} {K : Nat} {T : zT} {x : Int} {y : Int} {Q : Int → zF → zF → zF → Nat → zT → Prop} (hd : 1 ≤ d) (hI : XI m sz A K T) (p1 : -2147483648 ≤ x ∧ x ≤ 2147483647) (p2 : -2147483648 ≤ y ∧ y ≤ 2147483647) (q : ∀ (r : Int), ((r = 1 ∧ 0 ≤ x ∧ x < 40 ∧ 0 ≤ y ∧ y < (A 6 (x).toNat)) ∨ r = 0) → Q r A B Y K T) : pzI d 69 [.inr (.inr (4 : Nat)), .inl x, .inl y] (A, B, Y, K, T) Q := by
  refine pzI_of 15 [] [] ?_
  show (0 < d ∧ pzI (d - 1) 63 [.inr (.inr (4 : Nat)), .inl x] (A, B, Y, K, T) (fun nv1 Av1 Bv1 Yv1 Kv1 Tv1 => ((-2147483648 ≤ nv1 ∧ nv1 < 2147483648) ∧ (nv1 = (0 : Int) → (((0 : Int) = 0 ∨ (0 : Int) = 1) ∧ Q (0 : Int) Av1 Bv1 Yv1 Kv1 Tv1)) ∧ (nv1 ≠ (0 : Int) → ((-2147483648 ≤ y ∧ y < 2147483648) ∧ (y < (0 : Int) → (((0 : Int) = 0 ∨ (0 : Int) = 1) ∧ Q (0 : Int) Av1 Bv1 Yv1 Kv1 Tv1)) ∧ ((0 : Int) ≤ y → ((0 ≤ x ∧ x < (40 : Int)) ∧ ((-2147483648 ≤ y ∧ y < 2147483648) ∧ (-2147483648 ≤ (Av1 6 (x).toNat) ∧ (Av1 6 (x).toNat) < 2147483648) ∧ ((Av1 6 (x).toNat) ≤ y → (((0 : Int) = 0 ∨ (0 : Int) = 1) ∧ Q (0 : Int) Av1 Bv1 Yv1 Kv1 Tv1)) ∧ (y < (Av1 6 (x).toNat) → (((1 : Int) = 0 ∨ (1 : Int) = 1) ∧ Q (1 : Int) Av1 Bv1 Yv1 Kv1 Tv1))))))))))
  refine ⟨by omega, c_63_4 (by omega) hI (show -2147483648 ≤ x ∧ x ≤ 2147483647 from by omega) (fun nv1 xp1_0 => ?_)⟩
  replace xp1_0 : (nv1 = 1 ∧ 0 ≤ x ∧ x < (A 4 4) ∧ x < 40) ∨ nv1 = 0 := xp1_0
  refine ⟨by omega, fun z1 => ?_, fun z1 => ?_⟩
  · skip
    exact ⟨by omega, q _ (show ((0 : Int) = 1 ∧ 0 ≤ x ∧ x < 40 ∧ 0 ≤ y ∧ y < (A 6 (x).toNat)) ∨ (0 : Int) = 0 from by omega)⟩
  · skip
    refine ⟨by omega, fun z2 => ?_, fun z2 => ?_⟩
    · skip
      exact ⟨by omega, q _ (show ((0 : Int) = 1 ∧ 0 ≤ x ∧ x < 40 ∧ 0 ≤ y ∧ y < (A 6 (x).toNat)) ∨ (0 : Int) = 0 from by omega)⟩
    · skip
      refine ⟨by omega, ?_⟩
      have f3 := XI_r_6 hI ((x).toNat)
      refine ⟨by omega, by omega, fun z4 => ?_, fun z4 => ?_⟩
      · skip
        exact ⟨by omega, q _ (show ((0 : Int) = 1 ∧ 0 ≤ x ∧ x < 40 ∧ 0 ≤ y ∧ y < (A 6 (x).toNat)) ∨ (0 : Int) = 0 from by omega)⟩
      · skip
        exact ⟨by omega, q _ (show ((1 : Int) = 1 ∧ 0 ≤ x ∧ x < 40 ∧ 0 ≤ y ∧ y < (A 6 (x).toNat)) ∨ (1 : Int) = 0 from by omega)⟩

set_option maxHeartbeats 400000 in
theorem c_70_4 {m : Nat} {sz : Int} {d : Nat} {A B Y : zF} {K : Nat} {T : zT} {x : Int} {y : Int} {Q : Int → zF → zF → zF → Nat → zT → Prop} (hd : 2 ≤ d) (hI : XI m sz A K T) (p1 : -2147483648 ≤ x ∧ x ≤ 2147483647) (p2 : -2147483648 ≤ y ∧ y ≤ 2147483647) (q : ∀ (r : Int), (0 ≤ r ∧ r < 65536) → Q r A B Y K T) : pzI d 70 [.inr (.inr (4 : Nat)), .inl x, .inl y] (A, B, Y, K, T) Q := by
  refine pzI_of 16 [] [] ?_
  show (0 < d ∧ pzI (d - 1) 69 [.inr (.inr (4 : Nat)), .inl x, .inl y] (A, B, Y, K, T) (fun nv1 Av1 Bv1 Yv1 Kv1 Tv1 => ((-2147483648 ≤ nv1 ∧ nv1 < 2147483648) ∧ (nv1 = (0 : Int) → ((0 ≤ (0 : Int) ∧ (0 : Int) < 65536) ∧ Q (0 : Int) Av1 Bv1 Yv1 Kv1 Tv1)) ∧ (nv1 ≠ (0 : Int) → ((0 ≤ x ∧ x < (40 : Int)) ∧ ((0 ≤ ((Av1 5 (x).toNat) + y) ∧ ((Av1 5 (x).toNat) + y) < (3000 : Int)) ∧ ((0 ≤ (Av1 3 (((Av1 5 (x).toNat) + y)).toNat) ∧ (Av1 3 (((Av1 5 (x).toNat) + y)).toNat) < 65536) ∧ Q (Av1 3 (((Av1 5 (x).toNat) + y)).toNat) Av1 Bv1 Yv1 Kv1 Tv1)))))))
  refine ⟨by omega, c_69_4 (by omega) hI (show -2147483648 ≤ x ∧ x ≤ 2147483647 from by omega) (show -2147483648 ≤ y ∧ y ≤ 2147483647 from by omega) (fun nv1 xp1_0 => ?_)⟩
  replace xp1_0 : (nv1 = 1 ∧ 0 ≤ x ∧ x < 40 ∧ 0 ≤ y ∧ y < (A 6 (x).toNat)) ∨ nv1 = 0 := xp1_0
  refine ⟨by omega, fun z1 => ?_, fun z1 => ?_⟩
  · skip
    exact ⟨by omega, q _ (show 0 ≤ (0 : Int) ∧ (0 : Int) < 65536 from by omega)⟩
  · skip
    have g0 := XI_p_5 hI (x).toNat
    have g1 := XI_r_6 hI (x).toNat
    refine ⟨by omega, ?_⟩
    have f2 := XI_r_5 hI ((x).toNat)
    refine ⟨by omega, ?_⟩
    have f3 := XI_r_3 hI ((((A 5 (x).toNat) + y)).toNat)
    exact ⟨by omega, q _ (show 0 ≤ (A 3 (((A 5 (x).toNat) + y)).toNat) ∧ (A 3 (((A 5 (x).toNat) + y)).toNat) < 65536 from by omega)⟩

set_option maxHeartbeats 400000 in
theorem c_61_10 {m : Nat} {sz : Int} {d : Nat} {A B Y : zF} {K : Nat} {T : zT}  {Q : zF → zF → zF → Nat → zT → Prop} (hd : 0 ≤ d) (hI : XI m sz A K T)  (q : ∀ (A' : zF) (K' : Nat) (T' : zT), XI m sz A' K' T' → ((A' 10 4) = 0) → ((A' 4 4) = (A 4 4)) → Q A' B Y K' T') : pzV d 61 [.inr (.inr (10 : Nat))] (A, B, Y, K, T) Q := by
  refine pzV_of 4 [] [] ?_
  show Q (zu A 10 4 (0 : Int)) B Y K T
  have hI1 := XI_w_10_4 (v := (0 : Int)) hI (by omega) (by omega)
  exact q _ _ _ hI1 (show (0 : Int) = 0 from by omega) (show (A 4 4) = (A 4 4) from by omega)

set_option maxHeartbeats 400000 in
theorem c_62_10 {m : Nat} {sz : Int} {d : Nat} {A B Y : zF} {K : Nat} {T : zT}  {Q : Int → zF → zF → zF → Nat → zT → Prop} (hd : 0 ≤ d) (hI : XI m sz A K T)  (q : ∀ (r : Int), ((r = 0 ∧ (A 10 4) < 6) ∨ r = 1) → Q r A B Y K T) : pzI d 62 [.inr (.inr (10 : Nat))] (A, B, Y, K, T) Q := by
  refine pzI_of 9 [] [] ?_
  show ((-2147483648 ≤ (A 10 4) ∧ (A 10 4) < 2147483648) ∧ (-2147483648 ≤ (6 : Int) ∧ (6 : Int) < 2147483648) ∧ ((A 10 4) < (6 : Int) → (((0 : Int) = 0 ∨ (0 : Int) = 1) ∧ Q (0 : Int) A B Y K T)) ∧ ((6 : Int) ≤ (A 10 4) → (((1 : Int) = 0 ∨ (1 : Int) = 1) ∧ Q (1 : Int) A B Y K T)))
  have f1 := XI_r_10_4 hI
  refine ⟨by omega, by omega, fun z2 => ?_, fun z2 => ?_⟩
  · skip
    exact ⟨by omega, q _ (show ((0 : Int) = 0 ∧ (A 10 4) < 6) ∨ (0 : Int) = 1 from by omega)⟩
  · skip
    exact ⟨by omega, q _ (show ((1 : Int) = 0 ∧ (A 10 4) < 6) ∨ (1 : Int) = 1 from by omega)⟩

set_option maxHeartbeats 400000 in
theorem c_63_10 {m : Nat} {sz : Int} {d : Nat} {A B Y : zF} {K : Nat} {T : zT} {x : Int} {Q : Int → zF → zF → zF → Nat → zT → Prop} (hd : 0 ≤ d) (hI : XI m sz A K T) (p1 : -2147483648 ≤ x ∧ x ≤ 2147483647) (q : ∀ (r : Int), ((r = 1 ∧ 0 ≤ x ∧ x < (A 10 4) ∧ x < 6) ∨ r = 0) → Q r A B Y K T) : pzI d 63 [.inr (.inr (10 : Nat)), .inl x] (A, B, Y, K, T) Q := by
  refine pzI_of 9 [] [] ?_
  show ((-2147483648 ≤ x ∧ x < 2147483648) ∧ (x < (0 : Int) → (((0 : Int) = 0 ∨ (0 : Int) = 1) ∧ Q (0 : Int) A B Y K T)) ∧ ((0 : Int) ≤ x → ((-2147483648 ≤ x ∧ x < 2147483648) ∧ (-2147483648 ≤ (A 10 4) ∧ (A 10 4) < 2147483648) ∧ ((A 10 4) ≤ x → (((0 : Int) = 0 ∨ (0 : Int) = 1) ∧ Q (0 : Int) A B Y K T)) ∧ (x < (A 10 4) → (((1 : Int) = 0 ∨ (1 : Int) = 1) ∧ Q (1 : Int) A B Y K T)))))
  refine ⟨by omega, fun z1 => ?_, fun z1 => ?_⟩
  · skip
    exact ⟨by omega, q _ (show ((0 : Int) = 1 ∧ 0 ≤ x ∧ x < (A 10 4) ∧ x < 6) ∨ (0 : Int) = 0 from by omega)⟩
  · skip
    have f2 := XI_r_10_4 hI
    refine ⟨by omega, by omega, fun z3 => ?_, fun z3 => ?_⟩
    · skip
      exact ⟨by omega, q _ (show ((0 : Int) = 1 ∧ 0 ≤ x ∧ x < (A 10 4) ∧ x < 6) ∨ (0 : Int) = 0 from by omega)⟩
    · skip
      exact ⟨by omega, q _ (show ((1 : Int) = 1 ∧ 0 ≤ x ∧ x < (A 10 4) ∧ x < 6) ∨ (1 : Int) = 0 from by omega)⟩

set_option maxHeartbeats 400000 in
theorem c_64_10 {m : Nat} {sz : Int} {d : Nat} {A B Y : zF} {K : Nat} {T : zT} {x : Int} {y : Int} {w : Int} {Q : zF → zF → zF → Nat → zT → Prop} (hd : 1 ≤ d) (hI : XI m sz A K T) (p1 : 0 ≤ x ∧ x ≤ 3000) (p2 : -3000 ≤ y ∧ y ≤ 3000) (p3 : x + y ≤ 3000) (p4 : w = 0 ∨ w = 1) (q : ∀ (A' : zF) (K' : Nat) (T' : zT), XI m sz A' K' T' → Q A' B Y K' T') : pzV d 64 [.inr (.inr (10 : Nat)), .inl x, .inl y, .inl w] (A, B, Y, K, T) Q := by
  refine pzV_of 28 [] [] ?_
  show (0 < d ∧ pzI (d - 1) 62 [.inr (.inr (10 : Nat))] (A, B, Y, K, T) (fun nv1 Av1 Bv1 Yv1 Kv1 Tv1 => ((-2147483648 ≤ nv1 ∧ nv1 < 2147483648) ∧ (nv1 = (0 : Int) → ((0 ≤ (Av1 10 4) ∧ (Av1 10 4) < (6 : Int)) ∧ ((0 ≤ (Av1 10 4) ∧ (Av1 10 4) < (6 : Int)) ∧ ((0 ≤ (Av1 10 4) ∧ (Av1 10 4) < (6 : Int)) ∧ (w = 0 ∨ w = 1) ∧ Q (zu (zu (zu (zu Av1 11 ((Av1 10 4)).toNat x) 12 ((Av1 10 4)).toNat y) 13 ((Av1 10 4)).toNat w) 10 4 ((Av1 10 4) + (1 : Int))) Bv1 Yv1 Kv1 Tv1)))) ∧ (nv1 ≠ (0 : Int) → Q Av1 Bv1 Yv1 Kv1 Tv1))))
  refine ⟨by omega, c_62_10 (by omega) hI  (fun nv1 xp1_0 => ?_)⟩
  replace xp1_0 : (nv1 = 0 ∧ (A 10 4) < 6) ∨ nv1 = 1 := xp1_0
  refine ⟨by omega, fun z1 => ?_, fun z1 => ?_⟩
  · skip
    have f2 := XI_r_10_4 hI
    refine ⟨by omega, ?_⟩
    refine ⟨by omega, ?_⟩
    refine ⟨by omega, by omega, ?_⟩
    have hI3 := XI_add_10 hI (p := x) (s := y) (b := w) (by omega) p1 p2 p3 (by omega)
    exact q _ _ _ hI3 
  · skip
    exact q _ _ _ hI 

set_option maxHeartbeats 400000 in
theorem c_66_10 {m : Nat} {sz : Int} {d : Nat} {A B Y : zF} {K : Nat} {T : zT} {x : Int} {y : Int} {w : Int} {Q : Int → zF → zF → zF → Nat → zT → Prop} (hd : 0 ≤ d) (hI : XI m sz A K T) (p1 : 0 ≤ x ∧ x ≤ 3000) (p2 : 0 ≤ y ∧ y ≤ 3000) (p3 : -3000 ≤ w ∧ w ≤ 3000) (q : ∀ (r : Int), (r = 0 ∨ r = 1) → Q r A B Y K T) : pzI d 66 [.inr (.inr (10 : Nat)), .inl x, .inl y, .inl w] (A, B, Y, K, T) Q := by
  have L27 : ∀ (n : Nat) (k : Int), (0 ≤ k ∧ k ≤ 3000) → (x + w ≤ 3000) → (y + w ≤ 3000) → (3001 - k) < (n : Int) → pq d 66 27 [some (.inr (.inr (10 : Nat))), some (.inl x), some (.inl y), some (.inl w), some (.inl k)] [] (A, B, Y, K, T) (qI Q) := by
    intro n
    induction n with
    | zero =>
      intro k i0 i1 i2 hm
      exfalso
      omega
    | succ n ih =>
      intro k i0 i1 i2 hm
      refine pq_of 18 [(27, [])] [] ?_
      show ((-2147483648 ≤ k ∧ k < 2147483648) ∧ (-2147483648 ≤ w ∧ w < 2147483648) ∧ (w ≤ k → (((1 : Int) = 0 ∨ (1 : Int) = 1) ∧ Q (1 : Int) A B Y K T)) ∧ (k < w → ((0 ≤ (x + k) ∧ (x + k) < (3000 : Int)) ∧ ((0 ≤ (y + k) ∧ (y + k) < (3000 : Int)) ∧ ((-2147483648 ≤ (A 3 ((x + k)).toNat) ∧ (A 3 ((x + k)).toNat) < 2147483648) ∧ (-2147483648 ≤ (A 3 ((y + k)).toNat) ∧ (A 3 ((y + k)).toNat) < 2147483648) ∧ ((A 3 ((x + k)).toNat) = (A 3 ((y + k)).toNat) → pq d 66 27 [some (.inr (.inr (10 : Nat))), some (.inl x), some (.inl y), some (.inl w), some (.inl (k + (1 : Int)))] [] (A, B, Y, K, T) (qI Q)) ∧ ((A 3 ((x + k)).toNat) ≠ (A 3 ((y + k)).toNat) → (((0 : Int) = 0 ∨ (0 : Int) = 1) ∧ Q (0 : Int) A B Y K T)))))))
      refine ⟨by omega, by omega, fun z1 => ?_, fun z1 => ?_⟩
      · skip
        exact ⟨by omega, q _ (show (1 : Int) = 0 ∨ (1 : Int) = 1 from by omega)⟩
      · skip
        refine ⟨by omega, ?_⟩
        have f2 := XI_r_3 hI (((x + k)).toNat)
        refine ⟨by omega, ?_⟩
        have f3 := XI_r_3 hI (((y + k)).toNat)
        refine ⟨by omega, by omega, fun z4 => ?_, fun z4 => ?_⟩
        · skip
          exact ih ((k + (1 : Int))) (show 0 ≤ (k + (1 : Int)) ∧ (k + (1 : Int)) ≤ 3000 from by omega) (show x + w ≤ 3000 from by omega) (show y + w ≤ 3000 from by omega) (by show 3001 - (k + (1 : Int)) < _; omega)
        · skip
          exact ⟨by omega, q _ (show (0 : Int) = 0 ∨ (0 : Int) = 1 from by omega)⟩
  refine pzI_of 16 [(27, [])] [] ?_
  show ((-2147483648 ≤ (x + w) ∧ (x + w) < 2147483648) ∧ (-2147483648 ≤ (3000 : Int) ∧ (3000 : Int) < 2147483648) ∧ ((3000 : Int) < (x + w) → (((0 : Int) = 0 ∨ (0 : Int) = 1) ∧ Q (0 : Int) A B Y K T)) ∧ ((x + w) ≤ (3000 : Int) → ((-2147483648 ≤ (y + w) ∧ (y + w) < 2147483648) ∧ (-2147483648 ≤ (3000 : Int) ∧ (3000 : Int) < 2147483648) ∧ ((y + w) ≤ (3000 : Int) → pq d 66 27 [some (.inr (.inr (10 : Nat))), some (.inl x), some (.inl y), some (.inl w), some (.inl (0 : Int))] [] (A, B, Y, K, T) (qI Q)) ∧ ((3000 : Int) < (y + w) → (((0 : Int) = 0 ∨ (0 : Int) = 1) ∧ Q (0 : Int) A B Y K T)))))
  refine ⟨by omega, by omega, fun z1 => ?_, fun z1 => ?_⟩
  · skip
    exact ⟨by omega, q _ (show (0 : Int) = 0 ∨ (0 : Int) = 1 from by omega)⟩
  · skip
    refine ⟨by omega, by omega, fun z2 => ?_, fun z2 => ?_⟩
    · skip
      exact L27 ((3001 - (0 : Int)) + 1).toNat ((0 : Int)) (show 0 ≤ (0 : Int) ∧ (0 : Int) ≤ 3000 from by omega) (show x + w ≤ 3000 from by omega) (show y + w ≤ 3000 from by omega) (by show 3001 - (0 : Int) < _; omega)
    · skip
      exact ⟨by omega, q _ (show (0 : Int) = 0 ∨ (0 : Int) = 1 from by omega)⟩

set_option maxHeartbeats 400000 in
theorem c_65_10 {m : Nat} {sz : Int} {d : Nat} {A B Y : zF} {K : Nat} {T : zT} {x : Int} {y : Int} {Q : Int → zF → zF → zF → Nat → zT → Prop} (hd : 1 ≤ d) (hI : XI m sz A K T) (p1 : 0 ≤ x ∧ x ≤ 3000) (p2 : -3000 ≤ y ∧ y ≤ 3000) (q : ∀ (r : Int), (-1 ≤ r ∧ r < 6) → Q r A B Y K T) : pzI d 65 [.inr (.inr (10 : Nat)), .inl x, .inl y] (A, B, Y, K, T) Q := by
  have L2 : ∀ (n : Nat) (k : Int), (0 ≤ k ∧ k ≤ 6) → (7 - k) < (n : Int) → pq d 65 2 [some (.inr (.inr (10 : Nat))), some (.inl x), some (.inl y), some (.inl k)] [] (A, B, Y, K, T) (qI Q) := by
    intro n
    induction n with
    | zero =>
      intro k i0 hm
      exfalso
      omega
    | succ n ih =>
      intro k i0 hm
      refine pq_of 21 [(2, [])] [] ?_
      show ((-2147483648 ≤ k ∧ k < 2147483648) ∧ (-2147483648 ≤ (A 10 4) ∧ (A 10 4) < 2147483648) ∧ ((A 10 4) ≤ k → Q (-1 : Int) A B Y K T) ∧ (k < (A 10 4) → ((0 ≤ k ∧ k < (6 : Int)) ∧ ((-2147483648 ≤ (A 12 (k).toNat) ∧ (A 12 (k).toNat) < 2147483648) ∧ (-2147483648 ≤ y ∧ y < 2147483648) ∧ ((A 12 (k).toNat) ≠ y → pq d 65 2 [some (.inr (.inr (10 : Nat))), some (.inl x), some (.inl y), some (.inl (k + (1 : Int)))] [] (A, B, Y, K, T) (qI Q)) ∧ ((A 12 (k).toNat) = y → ((0 ≤ k ∧ k < (6 : Int)) ∧ (0 < d ∧ pzI (d - 1) 66 [.inr (.inr (10 : Nat)), .inl (A 11 (k).toNat), .inl x, .inl y] (A, B, Y, K, T) (fun nv101 Av101 Bv101 Yv101 Kv101 Tv101 => ((-2147483648 ≤ nv101 ∧ nv101 < 2147483648) ∧ (nv101 = (0 : Int) → pq d 65 2 [some (.inr (.inr (10 : Nat))), some (.inl x), some (.inl y), some (.inl (k + (1 : Int)))] [] (Av101, Bv101, Yv101, Kv101, Tv101) (qI Q)) ∧ (nv101 ≠ (0 : Int) → Q k Av101 Bv101 Yv101 Kv101 Tv101))))))))))
      have f1 := XI_r_10_4 hI
      refine ⟨by omega, by omega, fun z2 => ?_, fun z2 => ?_⟩
      · skip
        exact q _ (show -1 ≤ (-1 : Int) ∧ (-1 : Int) < 6 from by omega)
      · skip
        refine ⟨by omega, ?_⟩
        have f3 := XI_r_12 hI ((k).toNat)
        refine ⟨by omega, by omega, fun z4 => ?_, fun z4 => ?_⟩
        · skip
          exact ih ((k + (1 : Int))) (show 0 ≤ (k + (1 : Int)) ∧ (k + (1 : Int)) ≤ 6 from by omega) (by show 7 - (k + (1 : Int)) < _; omega)
        · skip
          refine ⟨by omega, ?_⟩
          have f5 := XI_r_11 hI ((k).toNat)
          refine ⟨by omega, c_66_10 (by omega) hI (show 0 ≤ (A 11 (k).toNat) ∧ (A 11 (k).toNat) ≤ 3000 from by omega) (show 0 ≤ x ∧ x ≤ 3000 from by omega) (show -3000 ≤ y ∧ y ≤ 3000 from by omega) (fun nv101 xp101_0 => ?_)⟩
          replace xp101_0 : nv101 = 0 ∨ nv101 = 1 := xp101_0
          refine ⟨by omega, fun z6 => ?_, fun z6 => ?_⟩
          · skip
            exact ih ((k + (1 : Int))) (show 0 ≤ (k + (1 : Int)) ∧ (k + (1 : Int)) ≤ 6 from by omega) (by show 7 - (k + (1 : Int)) < _; omega)
          · skip
            exact q _ (show -1 ≤ k ∧ k < 6 from by omega)
  refine pzI_of 2 [(2, [])] [] ?_
  show pq d 65 2 [some (.inr (.inr (10 : Nat))), some (.inl x), some (.inl y), some (.inl (0 : Int))] [] (A, B, Y, K, T) (qI Q)
  exact L2 ((7 - (0 : Int)) + 1).toNat ((0 : Int)) (show 0 ≤ (0 : Int) ∧ (0 : Int) ≤ 6 from by omega) (by show 7 - (0 : Int) < _; omega)

set_option maxHeartbeats 400000 in
theorem c_67_10 {m : Nat} {sz : Int} {d : Nat} {A B Y : zF} {K : Nat} {T : zT} {x : Int} {Q : Int → zF → zF → zF → Nat → zT → Prop} (hd : 1 ≤ d) (hI : XI m sz A K T) (p1 : -2147483648 ≤ x ∧ x ≤ 2147483647) (q : ∀ (r : Int), (r = 0 ∨ r = 1) → Q r A B Y K T) : pzI d 67 [.inr (.inr (10 : Nat)), .inl x] (A, B, Y, K, T) Q := by
  refine pzI_of 12 [] [] ?_
  show (0 < d ∧ pzI (d - 1) 63 [.inr (.inr (10 : Nat)), .inl x] (A, B, Y, K, T) (fun nv1 Av1 Bv1 Yv1 Kv1 Tv1 => ((-2147483648 ≤ nv1 ∧ nv1 < 2147483648) ∧ (nv1 = (0 : Int) → (((0 : Int) = 0 ∨ (0 : Int) = 1) ∧ Q (0 : Int) Av1 Bv1 Yv1 Kv1 Tv1)) ∧ (nv1 ≠ (0 : Int) → ((0 ≤ x ∧ x < (6 : Int)) ∧ ((-2147483648 ≤ (Av1 13 (x).toNat) ∧ (Av1 13 (x).toNat) < 2147483648) ∧ ((Av1 13 (x).toNat) = (0 : Int) → (((0 : Int) = 0 ∨ (0 : Int) = 1) ∧ Q (0 : Int) Av1 Bv1 Yv1 Kv1 Tv1)) ∧ ((Av1 13 (x).toNat) ≠ (0 : Int) → (((1 : Int) = 0 ∨ (1 : Int) = 1) ∧ Q (1 : Int) Av1 Bv1 Yv1 Kv1 Tv1))))))))
  refine ⟨by omega, c_63_10 (by omega) hI (show -2147483648 ≤ x ∧ x ≤ 2147483647 from by omega) (fun nv1 xp1_0 => ?_)⟩
  replace xp1_0 : (nv1 = 1 ∧ 0 ≤ x ∧ x < (A 10 4) ∧ x < 6) ∨ nv1 = 0 := xp1_0
  refine ⟨by omega, fun z1 => ?_, fun z1 => ?_⟩
  · skip
    exact ⟨by omega, q _ (show (0 : Int) = 0 ∨ (0 : Int) = 1 from by omega)⟩
  · skip
    refine ⟨by omega, ?_⟩
    have f2 := XI_r_13 hI ((x).toNat)
    refine ⟨by omega, fun z3 => ?_, fun z3 => ?_⟩
    · skip
      exact ⟨by omega, q _ (show (0 : Int) = 0 ∨ (0 : Int) = 1 from by omega)⟩
    · skip
      exact ⟨by omega, q _ (show (1 : Int) = 0 ∨ (1 : Int) = 1 from by omega)⟩

set_option maxHeartbeats 400000 in
theorem c_69_10 {m : Nat} {sz : Int} {d : Nat} {A B Y : zF} {K : Nat} {T : zT} {x : Int} {y : Int} {Q : Int → zF → zF → zF → Nat → zT → Prop} (hd : 1 ≤ d) (hI : XI m sz A K T) (p1 : -2147483648 ≤ x ∧ x ≤ 2147483647) (p2 : -2147483648 ≤ y ∧ y ≤ 2147483647) (q : ∀ (r : Int), ((r = 1 ∧ 0 ≤ x ∧ x < 6 ∧ 0 ≤ y ∧ y < (A 12 (x).toNat)) ∨ r = 0) → Q r A B Y K T) : pzI d 69 [.inr (.inr (10 : Nat)), .inl x, .inl y] (A, B, Y, K, T) Q := by
  refine pzI_of 15 [] [] ?_
  show (0 < d ∧ pzI (d - 1) 63 [.inr (.inr (10 : Nat)), .inl x] (A, B, Y, K, T) (fun nv1 Av1 Bv1 Yv1 Kv1 Tv1 => ((-2147483648 ≤ nv1 ∧ nv1 < 2147483648) ∧ (nv1 = (0 : Int) → (((0 : Int) = 0 ∨ (0 : Int) = 1) ∧ Q (0 : Int) Av1 Bv1 Yv1 Kv1 Tv1)) ∧ (nv1 ≠ (0 : Int) → ((-2147483648 ≤ y ∧ y < 2147483648) ∧ (y < (0 : Int) → (((0 : Int) = 0 ∨ (0 : Int) = 1) ∧ Q (0 : Int) Av1 Bv1 Yv1 Kv1 Tv1)) ∧ ((0 : Int) ≤ y → ((0 ≤ x ∧ x < (6 : Int)) ∧ ((-2147483648 ≤ y ∧ y < 2147483648) ∧ (-2147483648 ≤ (Av1 12 (x).toNat) ∧ (Av1 12 (x).toNat) < 2147483648) ∧ ((Av1 12 (x).toNat) ≤ y → (((0 : Int) = 0 ∨ (0 : Int) = 1) ∧ Q (0 : Int) Av1 Bv1 Yv1 Kv1 Tv1)) ∧ (y < (Av1 12 (x).toNat) → (((1 : Int) = 0 ∨ (1 : Int) = 1) ∧ Q (1 : Int) Av1 Bv1 Yv1 Kv1 Tv1))))))))))
  refine ⟨by omega, c_63_10 (by omega) hI (show -2147483648 ≤ x ∧ x ≤ 2147483647 from by omega) (fun nv1 xp1_0 => ?_)⟩
  replace xp1_0 : (nv1 = 1 ∧ 0 ≤ x ∧ x < (A 10 4) ∧ x < 6) ∨ nv1 = 0 := xp1_0
  refine ⟨by omega, fun z1 => ?_, fun z1 => ?_⟩
  · skip
    exact ⟨by omega, q _ (show ((0 : Int) = 1 ∧ 0 ≤ x ∧ x < 6 ∧ 0 ≤ y ∧ y < (A 12 (x).toNat)) ∨ (0 : Int) = 0 from by omega)⟩
  · skip
    refine ⟨by omega, fun z2 => ?_, fun z2 => ?_⟩
    · skip
      exact ⟨by omega, q _ (show ((0 : Int) = 1 ∧ 0 ≤ x ∧ x < 6 ∧ 0 ≤ y ∧ y < (A 12 (x).toNat)) ∨ (0 : Int) = 0 from by omega)⟩
    · skip
      refine ⟨by omega, ?_⟩
      have f3 := XI_r_12 hI ((x).toNat)
      refine ⟨by omega, by omega, fun z4 => ?_, fun z4 => ?_⟩
      · skip
        exact ⟨by omega, q _ (show ((0 : Int) = 1 ∧ 0 ≤ x ∧ x < 6 ∧ 0 ≤ y ∧ y < (A 12 (x).toNat)) ∨ (0 : Int) = 0 from by omega)⟩
      · skip
        exact ⟨by omega, q _ (show ((1 : Int) = 1 ∧ 0 ≤ x ∧ x < 6 ∧ 0 ≤ y ∧ y < (A 12 (x).toNat)) ∨ (1 : Int) = 0 from by omega)⟩

set_option maxHeartbeats 400000 in
theorem c_70_10 {m : Nat} {sz : Int} {d : Nat} {A B Y : zF} {K : Nat} {T : zT} {x : Int} {y : Int} {Q : Int → zF → zF → zF → Nat → zT → Prop} (hd : 2 ≤ d) (hI : XI m sz A K T) (p1 : -2147483648 ≤ x ∧ x ≤ 2147483647) (p2 : -2147483648 ≤ y ∧ y ≤ 2147483647) (q : ∀ (r : Int), (0 ≤ r ∧ r < 65536) → Q r A B Y K T) : pzI d 70 [.inr (.inr (10 : Nat)), .inl x, .inl y] (A, B, Y, K, T) Q := by
  refine pzI_of 16 [] [] ?_
  show (0 < d ∧ pzI (d - 1) 69 [.inr (.inr (10 : Nat)), .inl x, .inl y] (A, B, Y, K, T) (fun nv1 Av1 Bv1 Yv1 Kv1 Tv1 => ((-2147483648 ≤ nv1 ∧ nv1 < 2147483648) ∧ (nv1 = (0 : Int) → ((0 ≤ (0 : Int) ∧ (0 : Int) < 65536) ∧ Q (0 : Int) Av1 Bv1 Yv1 Kv1 Tv1)) ∧ (nv1 ≠ (0 : Int) → ((0 ≤ x ∧ x < (6 : Int)) ∧ ((0 ≤ ((Av1 11 (x).toNat) + y) ∧ ((Av1 11 (x).toNat) + y) < (3000 : Int)) ∧ ((0 ≤ (Av1 3 (((Av1 11 (x).toNat) + y)).toNat) ∧ (Av1 3 (((Av1 11 (x).toNat) + y)).toNat) < 65536) ∧ Q (Av1 3 (((Av1 11 (x).toNat) + y)).toNat) Av1 Bv1 Yv1 Kv1 Tv1)))))))
  refine ⟨by omega, c_69_10 (by omega) hI (show -2147483648 ≤ x ∧ x ≤ 2147483647 from by omega) (show -2147483648 ≤ y ∧ y ≤ 2147483647 from by omega) (fun nv1 xp1_0 => ?_)⟩
  replace xp1_0 : (nv1 = 1 ∧ 0 ≤ x ∧ x < 6 ∧ 0 ≤ y ∧ y < (A 12 (x).toNat)) ∨ nv1 = 0 := xp1_0
  refine ⟨by omega, fun z1 => ?_, fun z1 => ?_⟩
  · skip
    exact ⟨by omega, q _ (show 0 ≤ (0 : Int) ∧ (0 : Int) < 65536 from by omega)⟩
  · skip
    have g0 := XI_p_11 hI (x).toNat
    have g1 := XI_r_12 hI (x).toNat
    refine ⟨by omega, ?_⟩
    have f2 := XI_r_11 hI ((x).toNat)
    refine ⟨by omega, ?_⟩
    have f3 := XI_r_3 hI ((((A 11 (x).toNat) + y)).toNat)
    exact ⟨by omega, q _ (show 0 ≤ (A 3 (((A 11 (x).toNat) + y)).toNat) ∧ (A 3 (((A 11 (x).toNat) + y)).toNat) < 65536 from by omega)⟩

set_option maxHeartbeats 400000 in
theorem c_61_25 {m : Nat} {sz : Int} {d : Nat} {A B Y : zF} {K : Nat} {T : zT}  {Q : zF → zF → zF → Nat → zT → Prop} (hd : 0 ≤ d) (hI : XI m sz A K T)  (q : ∀ (A' : zF) (K' : Nat) (T' : zT), XI m sz A' K' T' → ((A' 25 4) = 0) → ((A' 4 4) = (A 4 4)) → Q A' B Y K' T') : pzV d 61 [.inr (.inr (25 : Nat))] (A, B, Y, K, T) Q := by
  refine pzV_of 4 [] [] ?_
  show Q (zu A 25 4 (0 : Int)) B Y K T
  have hI1 := XI_w_25_4 (v := (0 : Int)) hI (by omega) (by omega)
  exact q _ _ _ hI1 (show (0 : Int) = 0 from by omega) (show (A 4 4) = (A 4 4) from by omega)

set_option maxHeartbeats 400000 in
theorem c_62_25 {m : Nat} {sz : Int} {d : Nat} {A B Y : zF} {K : Nat} {T : zT}  {Q : Int → zF → zF → zF → Nat → zT → Prop} (hd : 0 ≤ d) (hI : XI m sz A K T)  (q : ∀ (r : Int), ((r = 0 ∧ (A 25 4) < 12) ∨ r = 1) → Q r A B Y K T) : pzI d 62 [.inr (.inr (25 : Nat))] (A, B, Y, K, T) Q := by
  refine pzI_of 9 [] [] ?_
  show ((-2147483648 ≤ (A 25 4) ∧ (A 25 4) < 2147483648) ∧ (-2147483648 ≤ (12 : Int) ∧ (12 : Int) < 2147483648) ∧ ((A 25 4) < (12 : Int) → (((0 : Int) = 0 ∨ (0 : Int) = 1) ∧ Q (0 : Int) A B Y K T)) ∧ ((12 : Int) ≤ (A 25 4) → (((1 : Int) = 0 ∨ (1 : Int) = 1) ∧ Q (1 : Int) A B Y K T)))
  have f1 := XI_r_25_4 hI
  refine ⟨by omega, by omega, fun z2 => ?_, fun z2 => ?_⟩
  · skip
    exact ⟨by omega, q _ (show ((0 : Int) = 0 ∧ (A 25 4) < 12) ∨ (0 : Int) = 1 from by omega)⟩
  · skip
    exact ⟨by omega, q _ (show ((1 : Int) = 0 ∧ (A 25 4) < 12) ∨ (1 : Int) = 1 from by omega)⟩

set_option maxHeartbeats 400000 in
theorem c_63_25 {m : Nat} {sz : Int} {d : Nat} {A B Y : zF} {K : Nat} {T : zT} {x : Int} {Q : Int → zF → zF → zF → Nat → zT → Prop} (hd : 0 ≤ d) (hI : XI m sz A K T) (p1 : -2147483648 ≤ x ∧ x ≤ 2147483647) (q : ∀ (r : Int), ((r = 1 ∧ 0 ≤ x ∧ x < (A 25 4) ∧ x < 12) ∨ r = 0) → Q r A B Y K T) : pzI d 63 [.inr (.inr (25 : Nat)), .inl x] (A, B, Y, K, T) Q := by
  refine pzI_of 9 [] [] ?_
  show ((-2147483648 ≤ x ∧ x < 2147483648) ∧ (x < (0 : Int) → (((0 : Int) = 0 ∨ (0 : Int) = 1) ∧ Q (0 : Int) A B Y K T)) ∧ ((0 : Int) ≤ x → ((-2147483648 ≤ x ∧ x < 2147483648) ∧ (-2147483648 ≤ (A 25 4) ∧ (A 25 4) < 2147483648) ∧ ((A 25 4) ≤ x → (((0 : Int) = 0 ∨ (0 : Int) = 1) ∧ Q (0 : Int) A B Y K T)) ∧ (x < (A 25 4) → (((1 : Int) = 0 ∨ (1 : Int) = 1) ∧ Q (1 : Int) A B Y K T)))))
  refine ⟨by omega, fun z1 => ?_, fun z1 => ?_⟩
  · skip
    exact ⟨by omega, q _ (show ((0 : Int) = 1 ∧ 0 ≤ x ∧ x < (A 25 4) ∧ x < 12) ∨ (0 : Int) = 0 from by omega)⟩
  · skip
    have f2 := XI_r_25_4 hI
    refine ⟨by omega, by omega, fun z3 => ?_, fun z3 => ?_⟩
    · skip
      exact ⟨by omega, q _ (show ((0 : Int) = 1 ∧ 0 ≤ x ∧ x < (A 25 4) ∧ x < 12) ∨ (0 : Int) = 0 from by omega)⟩
    · skip
      exact ⟨by omega, q _ (show ((1 : Int) = 1 ∧ 0 ≤ x ∧ x < (A 25 4) ∧ x < 12) ∨ (1 : Int) = 0 from by omega)⟩

set_option maxHeartbeats 400000 in
theorem c_64_25 {m : Nat} {sz : Int} {d : Nat} {A B Y : zF} {K : Nat} {T : zT} {x : Int} {y : Int} {w : Int} {Q : zF → zF → zF → Nat → zT → Prop} (hd : 1 ≤ d) (hI : XI m sz A K T) (p1 : 0 ≤ x ∧ x ≤ 3000) (p2 : -3000 ≤ y ∧ y ≤ 3000) (p3 : x + y ≤ 3000) (p4 : w = 0 ∨ w = 1) (q : ∀ (A' : zF) (K' : Nat) (T' : zT), XI m sz A' K' T' → Q A' B Y K' T') : pzV d 64 [.inr (.inr (25 : Nat)), .inl x, .inl y, .inl w] (A, B, Y, K, T) Q := by
  refine pzV_of 28 [] [] ?_
  show (0 < d ∧ pzI (d - 1) 62 [.inr (.inr (25 : Nat))] (A, B, Y, K, T) (fun nv1 Av1 Bv1 Yv1 Kv1 Tv1 => ((-2147483648 ≤ nv1 ∧ nv1 < 2147483648) ∧ (nv1 = (0 : Int) → ((0 ≤ (Av1 25 4) ∧ (Av1 25 4) < (12 : Int)) ∧ ((0 ≤ (Av1 25 4) ∧ (Av1 25 4) < (12 : Int)) ∧ ((0 ≤ (Av1 25 4) ∧ (Av1 25 4) < (12 : Int)) ∧ (w = 0 ∨ w = 1) ∧ Q (zu (zu (zu (zu Av1 26 ((Av1 25 4)).toNat x) 27 ((Av1 25 4)).toNat y) 28 ((Av1 25 4)).toNat w) 25 4 ((Av1 25 4) + (1 : Int))) Bv1 Yv1 Kv1 Tv1)))) ∧ (nv1 ≠ (0 : Int) → Q Av1 Bv1 Yv1 Kv1 Tv1))))
  refine ⟨by omega, c_62_25 (by omega) hI  (fun nv1 xp1_0 => ?_)⟩
  replace xp1_0 : (nv1 = 0 ∧ (A 25 4) < 12) ∨ nv1 = 1 := xp1_0
  refine ⟨by omega, fun z1 => ?_, fun z1 => ?_⟩
  · skip
    have f2 := XI_r_25_4 hI
    refine ⟨by omega, ?_⟩
    refine ⟨by omega, ?_⟩
    refine ⟨by omega, by omega, ?_⟩
    have hI3 := XI_add_25 hI (p := x) (s := y) (b := w) (by omega) p1 p2 p3 (by omega)
    exact q _ _ _ hI3 
  · skip
    exact q _ _ _ hI 

set_option maxHeartbeats 400000 in
theorem c_66_25 {m : Nat} {sz : Int} {d : Nat} {A B Y : zF} {K : Nat} {T : zT} {x : Int} {y : Int} {w : Int} {Q : Int → zF → zF → zF → Nat → zT → Prop} (hd : 0 ≤ d) (hI : XI m sz A K T) (p1 : 0 ≤ x ∧ x ≤ 3000) (p2 : 0 ≤ y ∧ y ≤ 3000) (p3 : -3000 ≤ w ∧ w ≤ 3000) (q : ∀ (r : Int), (r = 0 ∨ r = 1) → Q r A B Y K T) : pzI d 66 [.inr (.inr (25 : Nat)), .inl x, .inl y, .inl w] (A, B, Y, K, T) Q := by
  have L27 : ∀ (n : Nat) (k : Int), (0 ≤ k ∧ k ≤ 3000) → (x + w ≤ 3000) → (y + w ≤ 3000) → (3001 - k) < (n : Int) → pq d 66 27 [some (.inr (.inr (25 : Nat))), some (.inl x), some (.inl y), some (.inl w), some (.inl k)] [] (A, B, Y, K, T) (qI Q) := by
    intro n
    induction n with
    | zero =>
      intro k i0 i1 i2 hm
      exfalso
      omega
    | succ n ih =>
      intro k i0 i1 i2 hm
      refine pq_of 18 [(27, [])] [] ?_
      show ((-2147483648 ≤ k ∧ k < 2147483648) ∧ (-2147483648 ≤ w ∧ w < 2147483648) ∧ (w ≤ k → (((1 : Int) = 0 ∨ (1 : Int) = 1) ∧ Q (1 : Int) A B Y K T)) ∧ (k < w → ((0 ≤ (x + k) ∧ (x + k) < (3000 : Int)) ∧ ((0 ≤ (y + k) ∧ (y + k) < (3000 : Int)) ∧ ((-2147483648 ≤ (A 3 ((x + k)).toNat) ∧ (A 3 ((x + k)).toNat) < 2147483648) ∧ (-2147483648 ≤ (A 3 ((y + k)).toNat) ∧ (A 3 ((y + k)).toNat) < 2147483648) ∧ ((A 3 ((x + k)).toNat) = (A 3 ((y + k)).toNat) → pq d 66 27 [some (.inr (.inr (25 : Nat))), some (.inl x), some (.inl y), some (.inl w), some (.inl (k + (1 : Int)))] [] (A, B, Y, K, T) (qI Q)) ∧ ((A 3 ((x + k)).toNat) ≠ (A 3 ((y + k)).toNat) → (((0 : Int) = 0 ∨ (0 : Int) = 1) ∧ Q (0 : Int) A B Y K T)))))))
      refine ⟨by omega, by omega, fun z1 => ?_, fun z1 => ?_⟩
      · skip
        exact ⟨by omega, q _ (show (1 : Int) = 0 ∨ (1 : Int) = 1 from by omega)⟩
      · skip
        refine ⟨by omega, ?_⟩
        have f2 := XI_r_3 hI (((x + k)).toNat)
        refine ⟨by omega, ?_⟩
        have f3 := XI_r_3 hI (((y + k)).toNat)
        refine ⟨by omega, by omega, fun z4 => ?_, fun z4 => ?_⟩
        · skip
          exact ih ((k + (1 : Int))) (show 0 ≤ (k + (1 : Int)) ∧ (k + (1 : Int)) ≤ 3000 from by omega) (show x + w ≤ 3000 from by omega) (show y + w ≤ 3000 from by omega) (by show 3001 - (k + (1 : Int)) < _; omega)
        · skip
          exact ⟨by omega, q _ (show (0 : Int) = 0 ∨ (0 : Int) = 1 from by omega)⟩
  refine pzI_of 16 [(27, [])] [] ?_
  show ((-2147483648 ≤ (x + w) ∧ (x + w) < 2147483648) ∧ (-2147483648 ≤ (3000 : Int) ∧ (3000 : Int) < 2147483648) ∧ ((3000 : Int) < (x + w) → (((0 : Int) = 0 ∨ (0 : Int) = 1) ∧ Q (0 : Int) A B Y K T)) ∧ ((x + w) ≤ (3000 : Int) → ((-2147483648 ≤ (y + w) ∧ (y + w) < 2147483648) ∧ (-2147483648 ≤ (3000 : Int) ∧ (3000 : Int) < 2147483648) ∧ ((y + w) ≤ (3000 : Int) → pq d 66 27 [some (.inr (.inr (25 : Nat))), some (.inl x), some (.inl y), some (.inl w), some (.inl (0 : Int))] [] (A, B, Y, K, T) (qI Q)) ∧ ((3000 : Int) < (y + w) → (((0 : Int) = 0 ∨ (0 : Int) = 1) ∧ Q (0 : Int) A B Y K T)))))
  refine ⟨by omega, by omega, fun z1 => ?_, fun z1 => ?_⟩
  · skip
    exact ⟨by omega, q _ (show (0 : Int) = 0 ∨ (0 : Int) = 1 from by omega)⟩
  · skip
    refine ⟨by omega, by omega, fun z2 => ?_, fun z2 => ?_⟩
    · skip
      exact L27 ((3001 - (0 : Int)) + 1).toNat ((0 : Int)) (show 0 ≤ (0 : Int) ∧ (0 : Int) ≤ 3000 from by omega) (show x + w ≤ 3000 from by omega) (show y + w ≤ 3000 from by omega) (by show 3001 - (0 : Int) < _; omega)
    · skip
      exact ⟨by omega, q _ (show (0 : Int) = 0 ∨ (0 : Int) = 1 from by omega)⟩

set_option maxHeartbeats 400000 in
theorem c_65_25 {m : Nat} {sz : Int} {d : Nat} {A B Y : zF} {K : Nat} {T : zT} {x : Int} {y : Int} {Q : Int → zF → zF → zF → Nat → zT → Prop} (hd : 1 ≤ d) (hI : XI m sz A K T) (p1 : 0 ≤ x ∧ x ≤ 3000) (p2 : -3000 ≤ y ∧ y ≤ 3000) (q : ∀ (r : Int), (-1 ≤ r ∧ r < 12) → Q r A B Y K T) : pzI d 65 [.inr (.inr (25 : Nat)), .inl x, .inl y] (A, B, Y, K, T) Q := by
  have L2 : ∀ (n : Nat) (k : Int), (0 ≤ k ∧ k ≤ 12) → (13 - k) < (n : Int) → pq d 65 2 [some (.inr (.inr (25 : Nat))), some (.inl x), some (.inl y), some (.inl k)] [] (A, B, Y, K, T) (qI Q) := by
    intro n
    induction n with
    | zero =>
      intro k i0 hm
      exfalso
      omega
    | succ n ih =>
      intro k i0 hm
      refine pq_of 21 [(2, [])] [] ?_
      show ((-2147483648 ≤ k ∧ k < 2147483648) ∧ (-2147483648 ≤ (A 25 4) ∧ (A 25 4) < 2147483648) ∧ ((A 25 4) ≤ k → Q (-1 : Int) A B Y K T) ∧ (k < (A 25 4) → ((0 ≤ k ∧ k < (12 : Int)) ∧ ((-2147483648 ≤ (A 27 (k).toNat) ∧ (A 27 (k).toNat) < 2147483648) ∧ (-2147483648 ≤ y ∧ y < 2147483648) ∧ ((A 27 (k).toNat) ≠ y → pq d 65 2 [some (.inr (.inr (25 : Nat))), some (.inl x), some (.inl y), some (.inl (k + (1 : Int)))] [] (A, B, Y, K, T) (qI Q)) ∧ ((A 27 (k).toNat) = y → ((0 ≤ k ∧ k < (12 : Int)) ∧ (0 < d ∧ pzI (d - 1) 66 [.inr (.inr (25 : Nat)), .inl (A 26 (k).toNat), .inl x, .inl y] (A, B, Y, K, T) (fun nv101 Av101 Bv101 Yv101 Kv101 Tv101 => ((-2147483648 ≤ nv101 ∧ nv101 < 2147483648) ∧ (nv101 = (0 : Int) → pq d 65 2 [some (.inr (.inr (25 : Nat))), some (.inl x), some (.inl y), some (.inl (k + (1 : Int)))] [] (Av101, Bv101, Yv101, Kv101, Tv101) (qI Q)) ∧ (nv101 ≠ (0 : Int) → Q k Av101 Bv101 Yv101 Kv101 Tv101))))))))))
      have f1 := XI_r_25_4 hI
      refine ⟨by omega, by omega, fun z2 => ?_, fun z2 => ?_⟩
      · skip
        exact q _ (show -1 ≤ (-1 : Int) ∧ (-1 : Int) < 12 from by omega)
      · skip
        refine ⟨by omega, ?_⟩
        have f3 := XI_r_27 hI ((k).toNat)
        refine ⟨by omega, by omega, fun z4 => ?_, fun z4 => ?_⟩
        · skip
          exact ih ((k + (1 : Int))) (show 0 ≤ (k + (1 : Int)) ∧ (k + (1 : Int)) ≤ 12 from by omega) (by show 13 - (k + (1 : Int)) < _; omega)
        · skip
          refine ⟨by omega, ?_⟩
          have f5 := XI_r_26 hI ((k).toNat)
          refine ⟨by omega, c_66_25 (by omega) hI (show 0 ≤ (A 26 (k).toNat) ∧ (A 26 (k).toNat) ≤ 3000 from by omega) (show 0 ≤ x ∧ x ≤ 3000 from by omega) (show -3000 ≤ y ∧ y ≤ 3000 from by omega) (fun nv101 xp101_0 => ?_)⟩
          replace xp101_0 : nv101 = 0 ∨ nv101 = 1 := xp101_0
          refine ⟨by omega, fun z6 => ?_, fun z6 => ?_⟩
          · skip
            exact ih ((k + (1 : Int))) (show 0 ≤ (k + (1 : Int)) ∧ (k + (1 : Int)) ≤ 12 from by omega) (by show 13 - (k + (1 : Int)) < _; omega)
          · skip
            exact q _ (show -1 ≤ k ∧ k < 12 from by omega)
  refine pzI_of 2 [(2, [])] [] ?_
  show pq d 65 2 [some (.inr (.inr (25 : Nat))), some (.inl x), some (.inl y), some (.inl (0 : Int))] [] (A, B, Y, K, T) (qI Q)
  exact L2 ((13 - (0 : Int)) + 1).toNat ((0 : Int)) (show 0 ≤ (0 : Int) ∧ (0 : Int) ≤ 12 from by omega) (by show 13 - (0 : Int) < _; omega)

set_option maxHeartbeats 400000 in
theorem c_67_25 {m : Nat} {sz : Int} {d : Nat} {A B Y : zF} {K : Nat} {T : zT} {x : Int} {Q : Int → zF → zF → zF → Nat → zT → Prop} (hd : 1 ≤ d) (hI : XI m sz A K T) (p1 : -2147483648 ≤ x ∧ x ≤ 2147483647) (q : ∀ (r : Int), (r = 0 ∨ r = 1) → Q r A B Y K T) : pzI d 67 [.inr (.inr (25 : Nat)), .inl x] (A, B, Y, K, T) Q := by
  refine pzI_of 12 [] [] ?_
  show (0 < d ∧ pzI (d - 1) 63 [.inr (.inr (25 : Nat)), .inl x] (A, B, Y, K, T) (fun nv1 Av1 Bv1 Yv1 Kv1 Tv1 => ((-2147483648 ≤ nv1 ∧ nv1 < 2147483648) ∧ (nv1 = (0 : Int) → (((0 : Int) = 0 ∨ (0 : Int) = 1) ∧ Q (0 : Int) Av1 Bv1 Yv1 Kv1 Tv1)) ∧ (nv1 ≠ (0 : Int) → ((0 ≤ x ∧ x < (12 : Int)) ∧ ((-2147483648 ≤ (Av1 28 (x).toNat) ∧ (Av1 28 (x).toNat) < 2147483648) ∧ ((Av1 28 (x).toNat) = (0 : Int) → (((0 : Int) = 0 ∨ (0 : Int) = 1) ∧ Q (0 : Int) Av1 Bv1 Yv1 Kv1 Tv1)) ∧ ((Av1 28 (x).toNat) ≠ (0 : Int) → (((1 : Int) = 0 ∨ (1 : Int) = 1) ∧ Q (1 : Int) Av1 Bv1 Yv1 Kv1 Tv1))))))))
  refine ⟨by omega, c_63_25 (by omega) hI (show -2147483648 ≤ x ∧ x ≤ 2147483647 from by omega) (fun nv1 xp1_0 => ?_)⟩
  replace xp1_0 : (nv1 = 1 ∧ 0 ≤ x ∧ x < (A 25 4) ∧ x < 12) ∨ nv1 = 0 := xp1_0
  refine ⟨by omega, fun z1 => ?_, fun z1 => ?_⟩
  · skip
    exact ⟨by omega, q _ (show (0 : Int) = 0 ∨ (0 : Int) = 1 from by omega)⟩
  · skip
    refine ⟨by omega, ?_⟩
    have f2 := XI_r_28 hI ((x).toNat)
    refine ⟨by omega, fun z3 => ?_, fun z3 => ?_⟩
    · skip
      exact ⟨by omega, q _ (show (0 : Int) = 0 ∨ (0 : Int) = 1 from by omega)⟩
    · skip
      exact ⟨by omega, q _ (show (1 : Int) = 0 ∨ (1 : Int) = 1 from by omega)⟩

set_option maxHeartbeats 400000 in
theorem c_73_2_1 {m : Nat} {sz : Int} {d : Nat} {A B Y : zF} {K : Nat} {T : zT} {x : Int} {Q : zF → zF → zF → Nat → zT → Prop} (hd : 1 ≤ d) (hI : XI m sz A K T) (p1 : -2147483648 ≤ x ∧ x ≤ 2147483647) (p2 : 0 ≤ x) (q : ∀ (A' : zF) (K' : Nat) (T' : zT), XI m sz A' K' T' → Q A' B Y K' T') : pzV d 73 [.inr (.inr (2 : Nat)), .inr (.inr (1 : Nat)), .inl x] (A, B, Y, K, T) Q := by
  refine pzV_of 19 [] [] ?_
  show (0 < d ∧ pzI (d - 1) 172 [.inl (3000 : Int), .inl (3000 : Int)] (A, B, Y, K, T) (fun nv1 Av1 Bv1 Yv1 Kv1 Tv1 => (0 < d ∧ pzI (d - 1) 172 [.inl x, .inl nv1] (Av1, Bv1, Yv1, Kv1, Tv1) (fun nv2 Av2 Bv2 Yv2 Kv2 Tv2 => ((0 ≤ (0 : Int) ∧ 0 ≤ (0 : Int) ∧ 0 ≤ nv2) ∧ ((0 : Int) + nv2 ≤ (3000 : Int) ∧ (0 : Int) + nv2 ≤ (3000 : Int)) ∧ (∀ j : Nat, 0 ≤ (Av2 1 j) ∧ (Av2 1 j) < 65536) ∧ 0 < d ∧ Q (zua (zu Av2 2 1 nv2) 3 (fun j => if ((0 : Int)).toNat ≤ j ∧ j < ((0 : Int)).toNat + (nv2).toNat then (Av2 1 (((0 : Int)).toNat + (j - ((0 : Int)).toNat))) else (Av2 3 j))) Bv2 Yv2 Kv2 Tv2)))))
  refine ⟨by omega, c_172 (by omega) (show -2147483648 ≤ (3000 : Int) ∧ (3000 : Int) ≤ 2147483647 from by omega) (show -2147483648 ≤ (3000 : Int) ∧ (3000 : Int) ≤ 2147483647 from by omega) (fun nv1 xp1_0 => ?_)⟩
  replace xp1_0 : (nv1 = (3000 : Int) ∨ nv1 = (3000 : Int)) ∧ nv1 ≤ (3000 : Int) ∧ nv1 ≤ (3000 : Int) := xp1_0
  refine ⟨by omega, c_172 (by omega) (show -2147483648 ≤ x ∧ x ≤ 2147483647 from by omega) (show -2147483648 ≤ nv1 ∧ nv1 ≤ 2147483647 from by omega) (fun nv2 xp2_0 => ?_)⟩
  replace xp2_0 : (nv2 = x ∨ nv2 = nv1) ∧ nv2 ≤ x ∧ nv2 ≤ nv1 := xp2_0
  have hI1 := XI_w_2_1 (v := nv2) hI (by omega) (by omega)
  refine ⟨by omega, by omega, (fun j => by have := XI_r_1 hI j; omega), by omega, ?_⟩
  have hI2 := XI_a_3 (g := (fun j => if ((0 : Int)).toNat ≤ j ∧ j < ((0 : Int)).toNat + (nv2).toNat then (A 1 (((0 : Int)).toNat + (j - ((0 : Int)).toNat))) else (A 3 j))) hI1 (fun j => by
    show 0 ≤ (if ((0 : Int)).toNat ≤ j ∧ j < ((0 : Int)).toNat + (nv2).toNat then (A 1 (((0 : Int)).toNat + (j - ((0 : Int)).toNat))) else (A 3 j)) ∧ (if ((0 : Int)).toNat ≤ j ∧ j < ((0 : Int)).toNat + (nv2).toNat then (A 1 (((0 : Int)).toNat + (j - ((0 : Int)).toNat))) else (A 3 j)) ≤ 65535
    have f1 := XI_r_1 hI (((0 : Int)).toNat + (j - ((0 : Int)).toNat))
    have f2 := XI_r_3 hI j
    split <;> omega)
  exact q _ _ _ hI2 

set_option maxHeartbeats 400000 in
theorem c_74_2 {m : Nat} {sz : Int} {d : Nat} {A B Y : zF} {K : Nat} {T : zT}  {Q : zF → zF → zF → Nat → zT → Prop} (hd : 1 ≤ d) (hI : XI m sz A K T)  (q : ∀ (A' : zF) (K' : Nat) (T' : zT), XI m sz A' K' T' → ((A' 4 4) = 0) → Q A' B Y K' T') : pzV d 74 [.inr (.inr (2 : Nat))] (A, B, Y, K, T) Q := by
  refine pzV_of 22 [] [] ?_
  show (0 < d ∧ pzV (d - 1) 61 [.inr (.inr (4 : Nat))] (A, B, Y, K, T) (fun Av1 Bv1 Yv1 Kv1 Tv1 => (0 < d ∧ pzV (d - 1) 61 [.inr (.inr (10 : Nat))] (Av1, Bv1, Yv1, Kv1, Tv1) (fun Av2 Bv2 Yv2 Kv2 Tv2 => (((0 : Int) = 0 ∨ (0 : Int) = 1) ∧ Q (zu (zu (zu (zu (zu Av2 2 5 (0 : Int)) 2 12 (0 : Int)) 2 13 (0 : Int)) 2 14 (0 : Int)) 2 15 (0 : Int)) Bv2 Yv2 Kv2 Tv2)))))
  refine ⟨by omega, c_61_4 (by omega) hI  (fun Av1 Kv1 Tv1 xI1 xp1_0 => ?_)⟩
  replace xp1_0 : (Av1 4 4) = 0 := xp1_0
  refine ⟨by omega, c_61_10 (by omega) xI1  (fun Av2 Kv2 Tv2 xI2 xp2_0 xp2_1 => ?_)⟩
  replace xp2_0 : (Av2 10 4) = 0 := xp2_0
  replace xp2_1 : (Av2 4 4) = (Av1 4 4) := xp2_1
  have hI1 := XI_w_2_5 (v := (0 : Int)) xI2
  have hI2 := XI_w_2_12 (v := (0 : Int)) hI1 (by omega) (by omega)
  have hI3 := XI_w_2_13 (v := (0 : Int)) hI2 (by omega) (by omega)
  have hI4 := XI_w_2_14 (v := (0 : Int)) hI3
  refine ⟨by omega, ?_⟩
  have hI5 := XI_w_2_15 (v := (0 : Int)) hI4 (by omega) (by omega)
  exact q _ _ _ hI5 (show (Av2 4 4) = 0 from by omega)

set_option maxHeartbeats 400000 in
theorem c_77_2 {m : Nat} {sz : Int} {d : Nat} {A B Y : zF} {K : Nat} {T : zT} {x : Int} {Q : Int → zF → zF → zF → Nat → zT → Prop} (hd : 1 ≤ d) (hI : XI m sz A K T) (p1 : -2147483648 ≤ x ∧ x ≤ 2147483647) (q : ∀ (r : Int), (r = 0 ∨ r = 1) → Q r A B Y K T) : pzI d 77 [.inr (.inr (2 : Nat)), .inl x] (A, B, Y, K, T) Q := by
  refine pzI_of 13 [] [] ?_
  show (0 < d ∧ pzI (d - 1) 63 [.inr (.inr (4 : Nat)), .inl x] (A, B, Y, K, T) (fun nv1 Av1 Bv1 Yv1 Kv1 Tv1 => ((-2147483648 ≤ nv1 ∧ nv1 < 2147483648) ∧ (nv1 = (0 : Int) → (((0 : Int) = 0 ∨ (0 : Int) = 1) ∧ Q (0 : Int) Av1 Bv1 Yv1 Kv1 Tv1)) ∧ (nv1 ≠ (0 : Int) → ((0 ≤ x ∧ x < (40 : Int)) ∧ ((-2147483648 ≤ (Av1 8 (x).toNat) ∧ (Av1 8 (x).toNat) < 2147483648) ∧ ((Av1 8 (x).toNat) ≤ (0 : Int) → (((0 : Int) = 0 ∨ (0 : Int) = 1) ∧ Q (0 : Int) Av1 Bv1 Yv1 Kv1 Tv1)) ∧ ((0 : Int) < (Av1 8 (x).toNat) → (((1 : Int) = 0 ∨ (1 : Int) = 1) ∧ Q (1 : Int) Av1 Bv1 Yv1 Kv1 Tv1))))))))
  refine ⟨by omega, c_63_4 (by omega) hI (show -2147483648 ≤ x ∧ x ≤ 2147483647 from by omega) (fun nv1 xp1_0 => ?_)⟩
  replace xp1_0 : (nv1 = 1 ∧ 0 ≤ x ∧ x < (A 4 4) ∧ x < 40) ∨ nv1 = 0 := xp1_0
  refine ⟨by omega, fun z1 => ?_, fun z1 => ?_⟩
  · skip
    exact ⟨by omega, q _ (show (0 : Int) = 0 ∨ (0 : Int) = 1 from by omega)⟩
  · skip
    refine ⟨by omega, ?_⟩
    have f2 := XI_r_8 hI ((x).toNat)
    refine ⟨by omega, fun z3 => ?_, fun z3 => ?_⟩
    · skip
      exact ⟨by omega, q _ (show (0 : Int) = 0 ∨ (0 : Int) = 1 from by omega)⟩
    · skip
      exact ⟨by omega, q _ (show (1 : Int) = 0 ∨ (1 : Int) = 1 from by omega)⟩

set_option maxHeartbeats 400000 in
theorem c_79_2 {sz : Int} {d : Nat} {A B Y : zF} {K : Nat} {T : zT} {x : Int} {Q : Int → zF → zF → zF → Nat → zT → Prop} (hd : 1 ≤ d) (hI : XI 0 sz A K T) (p1 : -2147483648 ≤ x ∧ x ≤ 2147483647) (q : ∀ (r : Int), (0 ≤ r ∧ r ≤ 64) → (r = 0 ∨ (0 ≤ x ∧ x < 40)) → Q r A B Y K T) : pzI d 79 [.inr (.inr (2 : Nat)), .inl x] (A, B, Y, K, T) Q := by
  refine pzI_of 13 [] [] ?_
  show (0 < d ∧ pzI (d - 1) 63 [.inr (.inr (4 : Nat)), .inl x] (A, B, Y, K, T) (fun nv1 Av1 Bv1 Yv1 Kv1 Tv1 => ((-2147483648 ≤ nv1 ∧ nv1 < 2147483648) ∧ (nv1 = (0 : Int) → Q (0 : Int) Av1 Bv1 Yv1 Kv1 Tv1) ∧ (nv1 ≠ (0 : Int) → ((0 ≤ x ∧ x < (40 : Int)) ∧ (0 < d ∧ pzI (d - 1) 171 [.inl (1 : Int), .inl (Av1 8 (x).toNat)] (Av1, Bv1, Yv1, Kv1, Tv1) (fun nv2 Av2 Bv2 Yv2 Kv2 Tv2 => Q nv2 Av2 Bv2 Yv2 Kv2 Tv2)))))))
  refine ⟨by omega, c_63_4 (by omega) hI (show -2147483648 ≤ x ∧ x ≤ 2147483647 from by omega) (fun nv1 xp1_0 => ?_)⟩
  replace xp1_0 : (nv1 = 1 ∧ 0 ≤ x ∧ x < (A 4 4) ∧ x < 40) ∨ nv1 = 0 := xp1_0
  refine ⟨by omega, fun z1 => ?_, fun z1 => ?_⟩
  · skip
    exact q _ (show 0 ≤ (0 : Int) ∧ (0 : Int) ≤ 64 from by omega) (show (0 : Int) = 0 ∨ (0 ≤ x ∧ x < 40) from by omega)
  · skip
    refine ⟨by omega, ?_⟩
    have f2 := XI_r_8 hI ((x).toNat)
    have g0 := XI_64 hI (i := x) (by omega) (by omega)
    refine ⟨by omega, c_171 (by omega) (show -2147483648 ≤ (1 : Int) ∧ (1 : Int) ≤ 2147483647 from by omega) (show -2147483648 ≤ (A 8 (x).toNat) ∧ (A 8 (x).toNat) ≤ 2147483647 from by omega) (fun nv2 xp2_0 => ?_)⟩
    replace xp2_0 : (nv2 = (1 : Int) ∨ nv2 = (A 8 (x).toNat)) ∧ (1 : Int) ≤ nv2 ∧ (A 8 (x).toNat) ≤ nv2 := xp2_0
    exact q _ (show 0 ≤ nv2 ∧ nv2 ≤ 64 from by omega) (show nv2 = 0 ∨ (0 ≤ x ∧ x < 40) from by omega)

set_option maxHeartbeats 400000 in
theorem c_78_2 {sz : Int} {d : Nat} {A B Y : zF} {K : Nat} {T : zT} {x : Int} {y : Int} {Q : Int → zF → zF → zF → Nat → zT → Prop} (hd : 2 ≤ d) (hI : XI 0 sz A K T) (p1 : -2147483648 ≤ x ∧ x ≤ 2147483647) (p2 : -2147483648 ≤ y ∧ y ≤ 2147483647) (q : ∀ (r : Int), ((r = 1 ∧ 0 ≤ x ∧ x < 40 ∧ 0 ≤ y ∧ y < 64) ∨ r = 0) → Q r A B Y K T) : pzI d 78 [.inr (.inr (2 : Nat)), .inl x, .inl y] (A, B, Y, K, T) Q := by
  refine pzI_of 10 [] [] ?_
  show ((-2147483648 ≤ y ∧ y < 2147483648) ∧ (y < (0 : Int) → (((0 : Int) = 0 ∨ (0 : Int) = 1) ∧ Q (0 : Int) A B Y K T)) ∧ ((0 : Int) ≤ y → (0 < d ∧ pzI (d - 1) 79 [.inr (.inr (2 : Nat)), .inl x] (A, B, Y, K, T) (fun nv1 Av1 Bv1 Yv1 Kv1 Tv1 => ((-2147483648 ≤ y ∧ y < 2147483648) ∧ (-2147483648 ≤ nv1 ∧ nv1 < 2147483648) ∧ (nv1 ≤ y → (((0 : Int) = 0 ∨ (0 : Int) = 1) ∧ Q (0 : Int) Av1 Bv1 Yv1 Kv1 Tv1)) ∧ (y < nv1 → (((1 : Int) = 0 ∨ (1 : Int) = 1) ∧ Q (1 : Int) Av1 Bv1 Yv1 Kv1 Tv1)))))))
  refine ⟨by omega, fun z1 => ?_, fun z1 => ?_⟩
  · skip
    exact ⟨by omega, q _ (show ((0 : Int) = 1 ∧ 0 ≤ x ∧ x < 40 ∧ 0 ≤ y ∧ y < 64) ∨ (0 : Int) = 0 from by omega)⟩
  · skip
    refine ⟨by omega, c_79_2 (by omega) hI (show -2147483648 ≤ x ∧ x ≤ 2147483647 from by omega) (fun nv1 xp1_0 xp1_1 => ?_)⟩
    replace xp1_0 : 0 ≤ nv1 ∧ nv1 ≤ 64 := xp1_0
    replace xp1_1 : nv1 = 0 ∨ (0 ≤ x ∧ x < 40) := xp1_1
    refine ⟨by omega, by omega, fun z2 => ?_, fun z2 => ?_⟩
    · skip
      exact ⟨by omega, q _ (show ((0 : Int) = 1 ∧ 0 ≤ x ∧ x < 40 ∧ 0 ≤ y ∧ y < 64) ∨ (0 : Int) = 0 from by omega)⟩
    · skip
      exact ⟨by omega, q _ (show ((1 : Int) = 1 ∧ 0 ≤ x ∧ x < 40 ∧ 0 ≤ y ∧ y < 64) ∨ (1 : Int) = 0 from by omega)⟩

set_option maxHeartbeats 400000 in
theorem c_80_2 {m : Nat} {sz : Int} {d : Nat} {A B Y : zF} {K : Nat} {T : zT} {x : Int} {Q : Int → zF → zF → zF → Nat → zT → Prop} (hd : 1 ≤ d) (hI : XI m sz A K T) (p1 : -2147483648 ≤ x ∧ x ≤ 2147483647) (q : ∀ (r : Int), (0 ≤ r ∧ r ≤ 12) → (r = 0 ∨ (0 ≤ x ∧ x < 6)) → Q r A B Y K T) : pzI d 80 [.inr (.inr (2 : Nat)), .inl x] (A, B, Y, K, T) Q := by
  refine pzI_of 11 [] [] ?_
  show (0 < d ∧ pzI (d - 1) 63 [.inr (.inr (10 : Nat)), .inl x] (A, B, Y, K, T) (fun nv1 Av1 Bv1 Yv1 Kv1 Tv1 => ((-2147483648 ≤ nv1 ∧ nv1 < 2147483648) ∧ (nv1 = (0 : Int) → Q (0 : Int) Av1 Bv1 Yv1 Kv1 Tv1) ∧ (nv1 ≠ (0 : Int) → ((0 ≤ x ∧ x < (6 : Int)) ∧ Q (Av1 15 (x).toNat) Av1 Bv1 Yv1 Kv1 Tv1)))))
  refine ⟨by omega, c_63_10 (by omega) hI (show -2147483648 ≤ x ∧ x ≤ 2147483647 from by omega) (fun nv1 xp1_0 => ?_)⟩
  replace xp1_0 : (nv1 = 1 ∧ 0 ≤ x ∧ x < (A 10 4) ∧ x < 6) ∨ nv1 = 0 := xp1_0
  refine ⟨by omega, fun z1 => ?_, fun z1 => ?_⟩
  · skip
    exact q _ (show 0 ≤ (0 : Int) ∧ (0 : Int) ≤ 12 from by omega) (show (0 : Int) = 0 ∨ (0 ≤ x ∧ x < 6) from by omega)
  · skip
    refine ⟨by omega, ?_⟩
    have f2 := XI_r_15 hI ((x).toNat)
    exact q _ (show 0 ≤ (A 15 (x).toNat) ∧ (A 15 (x).toNat) ≤ 12 from by omega) (show (A 15 (x).toNat) = 0 ∨ (0 ≤ x ∧ x < 6) from by omega)

set_option maxHeartbeats 400000 in
theorem c_81_2 {m : Nat} {sz : Int} {d : Nat} {A B Y : zF} {K : Nat} {T : zT} {x : Int} {y : Int} {Q : Int → zF → zF → zF → Nat → zT → Prop} (hd : 2 ≤ d) (hI : XI m sz A K T) (p1 : -2147483648 ≤ x ∧ x ≤ 2147483647) (p2 : -2147483648 ≤ y ∧ y ≤ 2147483647) (q : ∀ (r : Int), (r = 0 ∨ r = 1) → Q r A B Y K T) : pzI d 81 [.inr (.inr (2 : Nat)), .inl x, .inl y] (A, B, Y, K, T) Q := by
  refine pzI_of 19 [] [] ?_
  show ((-2147483648 ≤ y ∧ y < 2147483648) ∧ (y < (0 : Int) → (((0 : Int) = 0 ∨ (0 : Int) = 1) ∧ Q (0 : Int) A B Y K T)) ∧ ((0 : Int) ≤ y → (0 < d ∧ pzI (d - 1) 80 [.inr (.inr (2 : Nat)), .inl x] (A, B, Y, K, T) (fun nv1 Av1 Bv1 Yv1 Kv1 Tv1 => ((-2147483648 ≤ y ∧ y < 2147483648) ∧ (-2147483648 ≤ nv1 ∧ nv1 < 2147483648) ∧ (nv1 ≤ y → (((0 : Int) = 0 ∨ (0 : Int) = 1) ∧ Q (0 : Int) Av1 Bv1 Yv1 Kv1 Tv1)) ∧ (y < nv1 → ((0 ≤ ((x * (12 : Int)) + y) ∧ ((x * (12 : Int)) + y) < (72 : Int)) ∧ ((-2147483648 ≤ (Av1 16 (((x * (12 : Int)) + y)).toNat) ∧ (Av1 16 (((x * (12 : Int)) + y)).toNat) < 2147483648) ∧ ((Av1 16 (((x * (12 : Int)) + y)).toNat) = (0 : Int) → (((0 : Int) = 0 ∨ (0 : Int) = 1) ∧ Q (0 : Int) Av1 Bv1 Yv1 Kv1 Tv1)) ∧ ((Av1 16 (((x * (12 : Int)) + y)).toNat) ≠ (0 : Int) → (((1 : Int) = 0 ∨ (1 : Int) = 1) ∧ Q (1 : Int) Av1 Bv1 Yv1 Kv1 Tv1))))))))))
  refine ⟨by omega, fun z1 => ?_, fun z1 => ?_⟩
  · skip
    exact ⟨by omega, q _ (show (0 : Int) = 0 ∨ (0 : Int) = 1 from by omega)⟩
  · skip
    refine ⟨by omega, c_80_2 (by omega) hI (show -2147483648 ≤ x ∧ x ≤ 2147483647 from by omega) (fun nv1 xp1_0 xp1_1 => ?_)⟩
    replace xp1_0 : 0 ≤ nv1 ∧ nv1 ≤ 12 := xp1_0
    replace xp1_1 : nv1 = 0 ∨ (0 ≤ x ∧ x < 6) := xp1_1
    refine ⟨by omega, by omega, fun z2 => ?_, fun z2 => ?_⟩
    · skip
      exact ⟨by omega, q _ (show (0 : Int) = 0 ∨ (0 : Int) = 1 from by omega)⟩
    · skip
      refine ⟨by omega, ?_⟩
      have f3 := XI_r_16 hI ((((x * (12 : Int)) + y)).toNat)
      refine ⟨by omega, fun z4 => ?_, fun z4 => ?_⟩
      · skip
        exact ⟨by omega, q _ (show (0 : Int) = 0 ∨ (0 : Int) = 1 from by omega)⟩
      · skip
        exact ⟨by omega, q _ (show (1 : Int) = 0 ∨ (1 : Int) = 1 from by omega)⟩

set_option maxHeartbeats 400000 in
theorem c_82_2 {m : Nat} {sz : Int} {d : Nat} {A B Y : zF} {K : Nat} {T : zT} {x : Int} {y : Int} {Q : Int → zF → zF → zF → Nat → zT → Prop} (hd : 0 ≤ d) (hI : XI m sz A K T) (p1 : -2147483648 ≤ x ∧ x ≤ 2147483647) (p2 : -2147483648 ≤ y ∧ y ≤ 2147483647) (q : ∀ (r : Int) (A' : zF) (K' : Nat) (T' : zT), XI m sz A' K' T' → (-1 ≤ r ∧ r < 3000) → Q r A' B Y K' T') : pzI d 82 [.inr (.inr (2 : Nat)), .inl x, .inl y] (A, B, Y, K, T) Q := by
  refine pzI_of 29 [] [] ?_
  show ((-2147483648 ≤ (A 2 12) ∧ (A 2 12) < 2147483648) ∧ (-2147483648 ≤ (3000 : Int) ∧ (3000 : Int) < 2147483648) ∧ ((A 2 12) < (3000 : Int) → ((0 ≤ (A 2 12) ∧ (A 2 12) < (3000 : Int)) ∧ ((0 ≤ (A 2 12) ∧ (A 2 12) < (3000 : Int)) ∧ Q (((A 2 12) + (1 : Int)) - (1 : Int)) (zu (zu (zu A 17 ((A 2 12)).toNat x) 18 ((A 2 12)).toNat y) 2 12 ((A 2 12) + (1 : Int))) B Y K T))) ∧ ((3000 : Int) ≤ (A 2 12) → Q (-1 : Int) A B Y K T))
  have f1 := XI_r_2_12 hI
  refine ⟨by omega, by omega, fun z2 => ?_, fun z2 => ?_⟩
  · skip
    refine ⟨by omega, ?_⟩
    have hI3 := XI_w_17 (j := ((A 2 12)).toNat) (v := x) hI (by omega) (by omega)
    refine ⟨by omega, ?_⟩
    have hI4 := XI_w_18 (j := ((A 2 12)).toNat) (v := y) hI3 (by omega) (by omega)
    have hI5 := XI_w_2_12 (v := ((A 2 12) + (1 : Int))) hI4 (by omega) (by omega)
    exact q _ _ _ _ hI5 (show -1 ≤ (((A 2 12) + (1 : Int)) - (1 : Int)) ∧ (((A 2 12) + (1 : Int)) - (1 : Int)) < 3000 from by omega)
  · skip
    exact q _ _ _ _ hI (show -1 ≤ (-1 : Int) ∧ (-1 : Int) < 3000 from by omega)

set_option maxHeartbeats 400000 in
theorem c_83_2 {m : Nat} {sz : Int} {d : Nat} {A B Y : zF} {K : Nat} {T : zT} {x : Int} {Q : zF → zF → zF → Nat → zT → Prop} (hd : 0 ≤ d) (hI : XI m sz A K T) (p1 : -2147483648 ≤ x ∧ x ≤ 2147483647) (q : ∀ (A' : zF) (K' : Nat) (T' : zT), XI m sz A' K' T' → Q A' B Y K' T') : pzV d 83 [.inr (.inr (2 : Nat)), .inl x] (A, B, Y, K, T) Q := by
  refine pzV_of 13 [] [] ?_
  show ((-2147483648 ≤ x ∧ x < 2147483648) ∧ (x < (0 : Int) → Q A B Y K T) ∧ ((0 : Int) ≤ x → ((-2147483648 ≤ x ∧ x < 2147483648) ∧ (-2147483648 ≤ (A 2 12) ∧ (A 2 12) < 2147483648) ∧ ((A 2 12) ≤ x → Q A B Y K T) ∧ (x < (A 2 12) → ((0 ≤ x ∧ x < (3000 : Int)) ∧ Q (zu A 18 (x).toNat (A 2 12)) B Y K T)))))
  refine ⟨by omega, fun z1 => ?_, fun z1 => ?_⟩
  · skip
    exact q _ _ _ hI 
  · skip
    have f2 := XI_r_2_12 hI
    refine ⟨by omega, by omega, fun z3 => ?_, fun z3 => ?_⟩
    · skip
      exact q _ _ _ hI 
    · skip
      refine ⟨by omega, ?_⟩
      have hI4 := XI_w_18 (j := (x).toNat) (v := (A 2 12)) hI (by omega) (by omega)
      exact q _ _ _ hI4 

set_option maxHeartbeats 400000 in
theorem c_75_2 {sz : Int} {d : Nat} {A B Y : zF} {K : Nat} {T : zT} {x : Int} {y : Int} {w : Int} {u : Int} {Q : zF → zF → zF → Nat → zT → Prop} (hd : 2 ≤ d) (hI : XI 1 sz A K T) (p1 : 0 ≤ x ∧ x ≤ 3000) (p2 : -3000 ≤ y ∧ y ≤ 3000) (p3 : x + y ≤ 3000) (p4 : w = 0 ∨ w = 1) (p5 : -2147483648 ≤ u ∧ u ≤ 2147483647) (p6 : (A 19 6) = 0 → u ≤ 64) (q : ∀ (A' : zF) (K' : Nat) (T' : zT), XI 1 sz A' K' T' → Q A' B Y K' T') : pzV d 75 [.inr (.inr (2 : Nat)), .inl x, .inl y, .inl w, .inl u] (A, B, Y, K, T) Q := by
  refine pzV_of 34 [] [] ?_
  show (0 < d ∧ pzI (d - 1) 62 [.inr (.inr (4 : Nat))] (A, B, Y, K, T) (fun nv1 Av1 Bv1 Yv1 Kv1 Tv1 => ((-2147483648 ≤ nv1 ∧ nv1 < 2147483648) ∧ (nv1 = (0 : Int) → ((0 ≤ (Av1 4 4) ∧ (Av1 4 4) < (40 : Int)) ∧ ((0 ≤ (Av1 4 4) ∧ (Av1 4 4) < (40 : Int)) ∧ ((-2147483648 ≤ u ∧ u < 2147483648) ∧ (u ≤ (0 : Int) → (0 < d ∧ pzV (d - 1) 64 [.inr (.inr (4 : Nat)), .inl x, .inl y, .inl w] ((zu (zu Av1 8 ((Av1 4 4)).toNat u) 9 ((Av1 4 4)).toNat (Av1 2 5)), Bv1, Yv1, Kv1, Tv1) (fun Av2 Bv2 Yv2 Kv2 Tv2 => Q Av2 Bv2 Yv2 Kv2 Tv2))) ∧ ((0 : Int) < u → (0 < d ∧ pzV (d - 1) 64 [.inr (.inr (4 : Nat)), .inl x, .inl y, .inl w] ((zu (zu (zu Av1 8 ((Av1 4 4)).toNat u) 9 ((Av1 4 4)).toNat (Av1 2 5)) 2 5 ((Av1 2 5) + (1 : Int))), Bv1, Yv1, Kv1, Tv1) (fun Av3 Bv3 Yv3 Kv3 Tv3 => Q Av3 Bv3 Yv3 Kv3 Tv3))))))) ∧ (nv1 ≠ (0 : Int) → Q Av1 Bv1 Yv1 Kv1 Tv1))))
  refine ⟨by omega, c_62_4 (by omega) hI  (fun nv1 xp1_0 => ?_)⟩
  replace xp1_0 : (nv1 = 0 ∧ (A 4 4) < 40) ∨ nv1 = 1 := xp1_0
  refine ⟨by omega, fun z1 => ?_, fun z1 => ?_⟩
  · skip
    have f2 := XI_r_4_4 hI
    refine ⟨by omega, ?_⟩
    have hI3 := XI_sizes (i := (A 4 4)) (v := u) hI (by omega) (by omega) (by omega)
    refine ⟨by omega, ?_⟩
    have hI4 := XI_w_9 (j := ((A 4 4)).toNat) (v := (A 2 5)) hI3
    refine ⟨by omega, fun z5 => ?_, fun z5 => ?_⟩
    · skip
      refine ⟨by omega, c_64_4 (by omega) hI4 p1 p2 p3 p4 (fun e => by have e2 : (A 19 6) = 0 := e.elim (fun q => absurd q (by decide)) id; have e3 := p6 e2; show (zu A 8 (A 4 4).toNat u) 8 (A 4 4).toNat ≤ 64; rw [zu_ap, if_pos ⟨rfl, rfl⟩]; exact e3) (fun Av2 Kv2 Tv2 xI2 => ?_)⟩
      exact q _ _ _ xI2 
    · skip
      have hI6 := XI_w_2_5 (v := ((A 2 5) + (1 : Int))) hI4
      refine ⟨by omega, c_64_4 (by omega) hI6 p1 p2 p3 p4 (fun e => by have e2 : (A 19 6) = 0 := e.elim (fun q => absurd q (by decide)) id; have e3 := p6 e2; show (zu A 8 (A 4 4).toNat u) 8 (A 4 4).toNat ≤ 64; rw [zu_ap, if_pos ⟨rfl, rfl⟩]; exact e3) (fun Av3 Kv3 Tv3 xI3 => ?_)⟩
      exact q _ _ _ xI3 
  · skip
    exact q _ _ _ hI 

set_option maxHeartbeats 400000 in
theorem c_76_2_25 {m : Nat} {sz : Int} {d : Nat} {A B Y : zF} {K : Nat} {T : zT}  {Q : zF → zF → zF → Nat → zT → Prop} (hd : 2 ≤ d) (hI : XI m sz A K T)  (q : ∀ (A' : zF) (K' : Nat) (T' : zT), XI m sz A' K' T' → Q A' B Y K' T') : pzV d 76 [.inr (.inr (2 : Nat)), .inr (.inr (25 : Nat))] (A, B, Y, K, T) Q := by
  have L45 : ∀ (n : Nat) (k : Int) (A2 : zF) (K2 : Nat) (T2 : zT), XI m sz A2 K2 T2 → (0 ≤ k ∧ k ≤ 12) → ((A2 10 4) < 6) → (13 - k) < (n : Int) → pq d 76 45 [some (.inr (.inr (2 : Nat))), some (.inr (.inr (25 : Nat))), some (.inl k)] [] (A2, B, Y, K2, T2) (qV Q) := by
    intro n
    induction n with
    | zero =>
      intro k A2 K2 T2 hI2 i0 i1 hm
      exfalso
      omega
    | succ n ih =>
      intro k A2 K2 T2 hI2 i0 i1 hm
      refine pq_of 18 [(45, [])] [] ?_
      show ((-2147483648 ≤ k ∧ k < 2147483648) ∧ (-2147483648 ≤ (12 : Int) ∧ (12 : Int) < 2147483648) ∧ ((12 : Int) ≤ k → Q A2 B Y K2 T2) ∧ (k < (12 : Int) → (0 < d ∧ pzI (d - 1) 67 [.inr (.inr (25 : Nat)), .inl k] (A2, B, Y, K2, T2) (fun nv101 Av101 Bv101 Yv101 Kv101 Tv101 => ((0 ≤ (((A2 10 4) * (12 : Int)) + k) ∧ (((A2 10 4) * (12 : Int)) + k) < (72 : Int)) ∧ (nv101 = 0 ∨ nv101 = 1) ∧ pq d 76 45 [some (.inr (.inr (2 : Nat))), some (.inr (.inr (25 : Nat))), some (.inl (k + (1 : Int)))] [] ((zu Av101 16 ((((A2 10 4) * (12 : Int)) + k)).toNat nv101), Bv101, Yv101, Kv101, Tv101) (qV Q))))))
      refine ⟨by omega, by omega, fun z1 => ?_, fun z1 => ?_⟩
      · skip
        exact q _ _ _ hI2 
      · skip
        have f2 := XI_r_10_4 hI2
        refine ⟨by omega, c_67_25 (by omega) hI2 (show -2147483648 ≤ k ∧ k ≤ 2147483647 from by omega) (fun nv101 xp101_0 => ?_)⟩
        replace xp101_0 : nv101 = 0 ∨ nv101 = 1 := xp101_0
        refine ⟨by omega, by omega, ?_⟩
        have hI3 := XI_w_16 (j := ((((A2 10 4) * (12 : Int)) + k)).toNat) (v := nv101) hI2 (by omega) (by omega)
        exact ih ((k + (1 : Int))) _ _ _ hI3 (show 0 ≤ (k + (1 : Int)) ∧ (k + (1 : Int)) ≤ 12 from by omega) (show (A2 10 4) < 6 from by omega) (by show 13 - (k + (1 : Int)) < _; omega)
  refine pzV_of 22 [(45, [])] [] ?_
  show (0 < d ∧ pzI (d - 1) 62 [.inr (.inr (10 : Nat))] (A, B, Y, K, T) (fun nv1 Av1 Bv1 Yv1 Kv1 Tv1 => ((-2147483648 ≤ nv1 ∧ nv1 < 2147483648) ∧ (nv1 = (0 : Int) → ((0 ≤ (Av1 10 4) ∧ (Av1 10 4) < (6 : Int)) ∧ ((0 ≤ (Av1 10 4) ∧ (Av1 10 4) < (6 : Int)) ∧ pq d 76 45 [some (.inr (.inr (2 : Nat))), some (.inr (.inr (25 : Nat))), some (.inl (0 : Int))] [] ((zu (zu Av1 14 ((Av1 10 4)).toNat (Av1 2 12)) 15 ((Av1 10 4)).toNat (Av1 25 4)), Bv1, Yv1, Kv1, Tv1) (qV Q)))) ∧ (nv1 ≠ (0 : Int) → Q Av1 Bv1 Yv1 Kv1 Tv1))))
  refine ⟨by omega, c_62_10 (by omega) hI  (fun nv1 xp1_0 => ?_)⟩
  replace xp1_0 : (nv1 = 0 ∧ (A 10 4) < 6) ∨ nv1 = 1 := xp1_0
  refine ⟨by omega, fun z1 => ?_, fun z1 => ?_⟩
  · skip
    have f2 := XI_r_10_4 hI
    have f3 := XI_r_2_12 hI
    refine ⟨by omega, ?_⟩
    have hI4 := XI_w_14 (j := ((A 10 4)).toNat) (v := (A 2 12)) hI (by omega) (by omega)
    have f5 := XI_r_25_4 hI
    refine ⟨by omega, ?_⟩
    have hI6 := XI_w_15 (j := ((A 10 4)).toNat) (v := (A 25 4)) hI4 (by omega) (by omega)
    exact L45 ((13 - (0 : Int)) + 1).toNat ((0 : Int)) _ _ _ hI6 (show 0 ≤ (0 : Int) ∧ (0 : Int) ≤ 12 from by omega) (show (A 10 4) < 6 from by omega) (by show 13 - (0 : Int) < _; omega)
  · skip
    exact q _ _ _ hI 

