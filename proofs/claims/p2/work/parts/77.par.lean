/-! The class: the parser, without expressions and statements -/
set_option maxRecDepth 10000 in
set_option maxHeartbeats 400000 in
theorem c_99_19 {sz : Int} {d : Nat} {A B Y : zF} {K : Nat} {T : zT} {x : Int} {Q : zF → zF → zF → Nat → zT → Prop} (hd : 0 ≤ d) (hI : XI 1 sz A K T) (p1 : -2147483648 ≤ x ∧ x ≤ 2147483647) (q : ∀ (A' : zF) (K' : Nat) (T' : zT), XI 1 sz A' K' T' → ((A' 19 6) = (A 19 6)) → Q A' B Y K' T') : pzV d 99 [.inr (.inr (19 : Nat)), .inl x] (A, B, Y, K, T) Q := by
  refine pzV_of 25 [] [] ?_
  show ((-2147483648 ≤ x ∧ x < 2147483648) ∧ (x < (0 : Int) → Q A B Y K T) ∧ ((0 : Int) ≤ x → ((-2147483648 ≤ x ∧ x < 2147483648) ∧ (-2147483648 ≤ (A 20 4) ∧ (A 20 4) < 2147483648) ∧ ((A 20 4) ≤ x → Q A B Y K T) ∧ (x < (A 20 4) → ((0 ≤ x ∧ x < 3001) ∧ T (x).toNat ≠ none ∧ (∀ rv1, T (x).toNat = some rv1 → ((0 ≤ x ∧ x < (3001 : Int)) ∧ Q (zu (zu A 19 8 x) 19 10 (A 22 (x).toNat)) B Y rv1 T)))))))
  refine ⟨by omega, fun z1 => ?_, fun z1 => ?_⟩
  · skip
    exact q _ _ _ hI (show (A 19 6) = (A 19 6) from by omega)
  · skip
    have f2 := XI_r_20_4 hI
    refine ⟨by omega, by omega, fun z3 => ?_, fun z3 => ?_⟩
    · skip
      exact q _ _ _ hI (show (A 19 6) = (A 19 6) from by omega)
    · skip
      have hI4 := XI_w_19_8 (v := x) hI (by omega) (by omega)
      refine ⟨by omega, XI_T1 hI (by omega) (by omega), fun rv1 erv1 => ?_⟩
      have grv1 := XI_T2 hI erv1
      have hI5 := XI_K (k := rv1) hI4 (by omega)
      refine ⟨by omega, ?_⟩
      have f6 := XI_r_22 hI ((x).toNat)
      have hI7 := XI_w_19_10 (v := (A 22 (x).toNat)) hI5 (by omega) (by omega)
      exact q _ _ _ hI7 (show (A 19 6) = (A 19 6) from by omega)

set_option maxRecDepth 10000 in
set_option maxHeartbeats 400000 in
theorem c_100_19 {sz : Int} {d : Nat} {A B Y : zF} {K : Nat} {T : zT}  {Q : zF → zF → zF → Nat → zT → Prop} (hd : 1 ≤ d) (hI : XI 1 sz A K T)  (q : ∀ (A' : zF) (K' : Nat) (T' : zT), XI 1 sz A' K' T' → ((A' 19 6) = (A 19 6)) → Q A' B Y K' T') : pzV d 100 [.inr (.inr (19 : Nat))] (A, B, Y, K, T) Q := by
  refine pzV_of 7 [] [] ?_
  show (0 < d ∧ pzV (d - 1) 99 [.inr (.inr (19 : Nat)), .inl ((A 19 8) + (1 : Int))] (A, B, Y, K, T) (fun Av1 Bv1 Yv1 Kv1 Tv1 => Q Av1 Bv1 Yv1 Kv1 Tv1))
  have f1 := XI_r_19_8 hI
  refine ⟨by omega, c_99_19 (by omega) hI (show -2147483648 ≤ ((A 19 8) + (1 : Int)) ∧ ((A 19 8) + (1 : Int)) ≤ 2147483647 from by omega) (fun Av1 Kv1 Tv1 xI1 xp1_0 => ?_)⟩
  replace xp1_0 : (Av1 19 6) = (A 19 6) := xp1_0
  exact q _ _ _ xI1 (show (Av1 19 6) = (A 19 6) from by omega)

set_option maxRecDepth 10000 in
set_option maxHeartbeats 400000 in
theorem c_102_19 {sz : Int} {d : Nat} {A B Y : zF} {K : Nat} {T : zT} {x : Int} {y : Int} {Q : zF → zF → zF → Nat → zT → Prop} (hd : 0 ≤ d) (hI : XI 1 sz A K T) (p1 : 1 ≤ x ∧ x ≤ 9) (p2 : 0 ≤ y ∧ y ≤ 3000) (q : ∀ (A' : zF) (K' : Nat) (T' : zT), XI 1 sz A' K' T' → (1 ≤ (A' 19 6)) → Q A' B Y K' T') : pzV d 102 [.inr (.inr (19 : Nat)), .inl x, .inl y] (A, B, Y, K, T) Q := by
  refine pzV_of 21 [] [] ?_
  show ((-2147483648 ≤ (A 19 6) ∧ (A 19 6) < 2147483648) ∧ ((A 19 6) ≠ (0 : Int) → Q A B Y K T) ∧ ((A 19 6) = (0 : Int) → Q (zu (zu A 19 6 (x + ((16 : Int) * y))) 19 8 ((A 20 4) - (1 : Int))) B Y (1003 : Nat) T))
  have g0 := XI_tc hI
  have f1 := XI_r_19_6 hI
  refine ⟨by omega, fun z2 => ?_, fun z2 => ?_⟩
  · skip
    exact q _ _ _ hI (show 1 ≤ (A 19 6) from by omega)
  · skip
    have hI3 := XI_fault (v := (x + ((16 : Int) * y))) hI (by omega) (by omega)
    have f4 := XI_r_20_4 hI
    have hI5 := XI_w_19_8 (v := ((A 20 4) - (1 : Int))) hI3 (by omega) (by omega)
    have hI6 := XI_K (k := (1003 : Nat)) hI5 (by omega)
    exact q _ _ _ hI6 (show 1 ≤ (x + ((16 : Int) * y)) from by omega)

set_option maxRecDepth 10000 in
set_option maxHeartbeats 400000 in
theorem c_101_19 {sz : Int} {d : Nat} {A B Y : zF} {K : Nat} {T : zT} {kd : Nat} {Q : zF → zF → zF → Nat → zT → Prop} (hd : 1 ≤ d) (hI : XI 1 sz A K T) (p1 : 1000 ≤ kd ∧ kd < 1039) (q : ∀ (A' : zF) (K' : Nat) (T' : zT), XI 1 sz A' K' T' → Q A' B Y K' T') : pzV d 101 [.inr (.inr (19 : Nat)), .inr (.inr kd)] (A, B, Y, K, T) Q := by
  refine pzV_of 12 [] [] ?_
  show ((1000 ≤ K ∧ K < 1064) ∧ (1000 ≤ kd ∧ kd < 1064) ∧ (K ≠ kd → (0 < d ∧ pzV (d - 1) 102 [.inr (.inr (19 : Nat)), .inl (1 : Int), .inl (A 19 10)] (A, B, Y, K, T) (fun Av1 Bv1 Yv1 Kv1 Tv1 => Q Av1 Bv1 Yv1 Kv1 Tv1))) ∧ (K = kd → (0 < d ∧ pzV (d - 1) 99 [.inr (.inr (19 : Nat)), .inl ((A 19 8) + (1 : Int))] (A, B, Y, K, T) (fun Av2 Bv2 Yv2 Kv2 Tv2 => Q Av2 Bv2 Yv2 Kv2 Tv2))))
  have f1 := XI_rK hI
  refine ⟨by omega, by omega, fun z2 => ?_, fun z2 => ?_⟩
  · skip
    have f3 := XI_r_19_10 hI
    refine ⟨by omega, c_102_19 (by omega) hI (show 1 ≤ (1 : Int) ∧ (1 : Int) ≤ 9 from by omega) (show 0 ≤ (A 19 10) ∧ (A 19 10) ≤ 3000 from by omega) (fun Av1 Kv1 Tv1 xI1 xp1_0 => ?_)⟩
    replace xp1_0 : 1 ≤ (Av1 19 6) := xp1_0
    exact q _ _ _ xI1 
  · skip
    have f4 := XI_r_19_8 hI
    refine ⟨by omega, c_99_19 (by omega) hI (show -2147483648 ≤ ((A 19 8) + (1 : Int)) ∧ ((A 19 8) + (1 : Int)) ≤ 2147483647 from by omega) (fun Av2 Kv2 Tv2 xI2 xp2_0 => ?_)⟩
    replace xp2_0 : (Av2 19 6) = (A 19 6) := xp2_0
    exact q _ _ _ xI2 

set_option maxRecDepth 10000 in
set_option maxHeartbeats 400000 in
theorem c_101f {sz : Int} {d : Nat} {A B Y : zF} {K : Nat} {T : zT} {kd : Nat} {Q : zF → zF → zF → Nat → zT → Prop} (hd : 1 ≤ d) (hI : XI 1 sz A K T) (p1 : 1000 ≤ kd ∧ kd < 1039) (q : ∀ (A' : zF) (K' : Nat) (T' : zT), XI 1 sz A' K' T' → ((A' 19 6) = (A 19 6) ∨ 1 ≤ (A' 19 6)) → Q A' B Y K' T') : pzV d 101 [.inr (.inr (19 : Nat)), .inr (.inr kd)] (A, B, Y, K, T) Q := by
  refine pzV_of 12 [] [] ?_
  show ((1000 ≤ K ∧ K < 1064) ∧ (1000 ≤ kd ∧ kd < 1064) ∧ (K ≠ kd → (0 < d ∧ pzV (d - 1) 102 [.inr (.inr (19 : Nat)), .inl (1 : Int), .inl (A 19 10)] (A, B, Y, K, T) (fun Av1 Bv1 Yv1 Kv1 Tv1 => Q Av1 Bv1 Yv1 Kv1 Tv1))) ∧ (K = kd → (0 < d ∧ pzV (d - 1) 99 [.inr (.inr (19 : Nat)), .inl ((A 19 8) + (1 : Int))] (A, B, Y, K, T) (fun Av2 Bv2 Yv2 Kv2 Tv2 => Q Av2 Bv2 Yv2 Kv2 Tv2))))
  have f1 := XI_rK hI
  refine ⟨by omega, by omega, fun z2 => ?_, fun z2 => ?_⟩
  · skip
    have f3 := XI_r_19_10 hI
    refine ⟨by omega, c_102_19 (by omega) hI (show 1 ≤ (1 : Int) ∧ (1 : Int) ≤ 9 from by omega) (show 0 ≤ (A 19 10) ∧ (A 19 10) ≤ 3000 from by omega) (fun Av1 Kv1 Tv1 xI1 xp1_0 => ?_)⟩
    replace xp1_0 : 1 ≤ (Av1 19 6) := xp1_0
    exact q _ _ _ xI1 (show (Av1 19 6) = (A 19 6) ∨ 1 ≤ (Av1 19 6) from by omega)
  · skip
    have f4 := XI_r_19_8 hI
    refine ⟨by omega, c_99_19 (by omega) hI (show -2147483648 ≤ ((A 19 8) + (1 : Int)) ∧ ((A 19 8) + (1 : Int)) ≤ 2147483647 from by omega) (fun Av2 Kv2 Tv2 xI2 xp2_0 => ?_)⟩
    replace xp2_0 : (Av2 19 6) = (A 19 6) := xp2_0
    exact q _ _ _ xI2 (show (Av2 19 6) = (A 19 6) ∨ 1 ≤ (Av2 19 6) from by omega)

set_option maxRecDepth 10000 in
set_option maxHeartbeats 400000 in
theorem c_103_19 {sz : Int} {d : Nat} {A B Y : zF} {K : Nat} {T : zT} {x : Int} {y : Int} {Q : zF → zF → zF → Nat → zT → Prop} (hd : 0 ≤ d) (hI : XI 1 sz A K T) (p1 : 1 ≤ x ∧ x ≤ 9) (p2 : 0 ≤ y ∧ y ≤ 3000) (q : ∀ (A' : zF) (K' : Nat) (T' : zT), XI 1 sz A' K' T' → Q A' B Y K' T') : pzV d 103 [.inr (.inr (19 : Nat)), .inl x, .inl y] (A, B, Y, K, T) Q := by
  refine pzV_of 17 [] [] ?_
  show ((-2147483648 ≤ (A 19 7) ∧ (A 19 7) < 2147483648) ∧ ((A 19 7) = (0 : Int) → Q (zu A 19 7 (x + ((16 : Int) * y))) B Y K T) ∧ ((A 19 7) ≠ (0 : Int) → ((-2147483648 ≤ (x + ((16 : Int) * y)) ∧ (x + ((16 : Int) * y)) < 2147483648) ∧ (-2147483648 ≤ (A 19 7) ∧ (A 19 7) < 2147483648) ∧ ((A 19 7) ≤ (x + ((16 : Int) * y)) → Q A B Y K T) ∧ ((x + ((16 : Int) * y)) < (A 19 7) → Q (zu A 19 7 (x + ((16 : Int) * y))) B Y K T))))
  have f1 := XI_r_19_7 hI
  refine ⟨by omega, fun z2 => ?_, fun z2 => ?_⟩
  · skip
    have hI3 := XI_w_19_7 (v := (x + ((16 : Int) * y))) hI (by omega) (by omega)
    exact q _ _ _ hI3 
  · skip
    refine ⟨by omega, by omega, fun z4 => ?_, fun z4 => ?_⟩
    · skip
      exact q _ _ _ hI 
    · skip
      have hI5 := XI_w_19_7 (v := (x + ((16 : Int) * y))) hI (by omega) (by omega)
      exact q _ _ _ hI5 

set_option maxRecDepth 10000 in
set_option maxHeartbeats 400000 in
theorem c_104_19 {sz : Int} {d : Nat} {A B Y : zF} {K : Nat} {T : zT} {x : Int} {y : Int} {Q : Int → zF → zF → zF → Nat → zT → Prop} (hd : 1 ≤ d) (hI : XI 1 sz A K T) (p1 : 0 ≤ x ∧ x ≤ 10) (p2 : 0 ≤ y ∧ y ≤ 3000) (q : ∀ (r : Int) (A' : zF) (K' : Nat) (T' : zT), XI 1 sz A' K' T' → ((r = 1 ∧ x ≤ 9) ∨ r = 0) → Q r A' B Y K' T') : pzI d 104 [.inr (.inr (19 : Nat)), .inl x, .inl y] (A, B, Y, K, T) Q := by
  refine pzI_of 13 [] [] ?_
  show ((-2147483648 ≤ x ∧ x < 2147483648) ∧ (-2147483648 ≤ (10 : Int) ∧ (10 : Int) < 2147483648) ∧ (x < (10 : Int) → ((-2147483648 ≤ (A 19 6) ∧ (A 19 6) < 2147483648) ∧ ((A 19 6) ≠ (0 : Int) → (((0 : Int) = 0 ∨ (0 : Int) = 1) ∧ Q (0 : Int) A B Y K T)) ∧ ((A 19 6) = (0 : Int) → (((1 : Int) = 0 ∨ (1 : Int) = 1) ∧ Q (1 : Int) A B Y K T)))) ∧ ((10 : Int) ≤ x → (0 < d ∧ pzV (d - 1) 102 [.inr (.inr (19 : Nat)), .inl (4 : Int), .inl y] (A, B, Y, K, T) (fun Av1 Bv1 Yv1 Kv1 Tv1 => ((-2147483648 ≤ (Av1 19 6) ∧ (Av1 19 6) < 2147483648) ∧ ((Av1 19 6) ≠ (0 : Int) → (((0 : Int) = 0 ∨ (0 : Int) = 1) ∧ Q (0 : Int) Av1 Bv1 Yv1 Kv1 Tv1)) ∧ ((Av1 19 6) = (0 : Int) → (((1 : Int) = 0 ∨ (1 : Int) = 1) ∧ Q (1 : Int) Av1 Bv1 Yv1 Kv1 Tv1)))))))
  refine ⟨by omega, by omega, fun z1 => ?_, fun z1 => ?_⟩
  · skip
    have f2 := XI_r_19_6 hI
    refine ⟨by omega, fun z3 => ?_, fun z3 => ?_⟩
    · skip
      exact ⟨by omega, q _ _ _ _ hI (show ((0 : Int) = 1 ∧ x ≤ 9) ∨ (0 : Int) = 0 from by omega)⟩
    · skip
      exact ⟨by omega, q _ _ _ _ hI (show ((1 : Int) = 1 ∧ x ≤ 9) ∨ (1 : Int) = 0 from by omega)⟩
  · skip
    refine ⟨by omega, c_102_19 (by omega) hI (show 1 ≤ (4 : Int) ∧ (4 : Int) ≤ 9 from by omega) (show 0 ≤ y ∧ y ≤ 3000 from by omega) (fun Av1 Kv1 Tv1 xI1 xp1_0 => ?_)⟩
    replace xp1_0 : 1 ≤ (Av1 19 6) := xp1_0
    have f4 := XI_r_19_6 xI1
    refine ⟨by omega, fun z5 => ?_, fun z5 => ?_⟩
    · skip
      exact ⟨by omega, q _ _ _ _ xI1 (show ((0 : Int) = 1 ∧ x ≤ 9) ∨ (0 : Int) = 0 from by omega)⟩
    · skip
      exact ⟨by omega, q _ _ _ _ xI1 (show ((1 : Int) = 1 ∧ x ≤ 9) ∨ (1 : Int) = 0 from by omega)⟩

set_option maxRecDepth 10000 in
set_option maxHeartbeats 400000 in
theorem c_105_19 {sz : Int} {d : Nat} {A B Y : zF} {K : Nat} {T : zT}  {Q : Int → zF → zF → zF → Nat → zT → Prop} (hd : 2 ≤ d) (hI : XI 1 sz A K T)  (q : ∀ (r : Int) (A' : zF) (K' : Nat) (T' : zT), XI 1 sz A' K' T' → (r = 0 ∨ r = 1) → Q r A' B Y K' T') : pzI d 105 [.inr (.inr (19 : Nat))] (A, B, Y, K, T) Q := by
  refine pzI_of 15 [] [] ?_
  show ((1000 ≤ K ∧ K < 1064) ∧ (1000 ≤ (1005 : Nat) ∧ (1005 : Nat) < 1064) ∧ (K ≠ (1005 : Nat) → ((-2147483648 ≤ (0 : Int) ∧ (0 : Int) < 2147483648) ∧ ((0 : Int) = (0 : Int) → (0 < d ∧ pzV (d - 1) 101 [.inr (.inr (19 : Nat)), .inr (.inr (1004 : Nat))] (A, B, Y, K, T) (fun Av1 Bv1 Yv1 Kv1 Tv1 => (((0 : Int) = 0 ∨ (0 : Int) = 1) ∧ Q (0 : Int) Av1 Bv1 Yv1 Kv1 Tv1)))) ∧ ((0 : Int) ≠ (0 : Int) → (0 < d ∧ pzV (d - 1) 101 [.inr (.inr (19 : Nat)), .inr (.inr (1005 : Nat))] (A, B, Y, K, T) (fun Av2 Bv2 Yv2 Kv2 Tv2 => (((0 : Int) = 0 ∨ (0 : Int) = 1) ∧ Q (0 : Int) Av2 Bv2 Yv2 Kv2 Tv2)))))) ∧ (K = (1005 : Nat) → ((-2147483648 ≤ (1 : Int) ∧ (1 : Int) < 2147483648) ∧ ((1 : Int) = (0 : Int) → (0 < d ∧ pzV (d - 1) 101 [.inr (.inr (19 : Nat)), .inr (.inr (1004 : Nat))] (A, B, Y, K, T) (fun Av3 Bv3 Yv3 Kv3 Tv3 => (((1 : Int) = 0 ∨ (1 : Int) = 1) ∧ Q (1 : Int) Av3 Bv3 Yv3 Kv3 Tv3)))) ∧ ((1 : Int) ≠ (0 : Int) → (0 < d ∧ pzV (d - 1) 101 [.inr (.inr (19 : Nat)), .inr (.inr (1005 : Nat))] (A, B, Y, K, T) (fun Av4 Bv4 Yv4 Kv4 Tv4 => (((1 : Int) = 0 ∨ (1 : Int) = 1) ∧ Q (1 : Int) Av4 Bv4 Yv4 Kv4 Tv4)))))))
  have f1 := XI_rK hI
  refine ⟨by omega, by omega, fun z2 => ?_, fun z2 => ?_⟩
  · skip
    refine ⟨by omega, fun z3 => ?_, fun z3 => ?_⟩
    · skip
      refine ⟨by omega, c_101_19 (by omega) hI (show 1000 ≤ (1004 : Nat) ∧ (1004 : Nat) < 1039 from by omega) (fun Av1 Kv1 Tv1 xI1 => ?_)⟩
      exact ⟨by omega, q _ _ _ _ xI1 (show (0 : Int) = 0 ∨ (0 : Int) = 1 from by omega)⟩
    · skip
      exact absurd z3 (by decide)
  · skip
    refine ⟨by omega, fun z4 => ?_, fun z4 => ?_⟩
    · skip
      exact absurd z4 (by decide)
    · skip
      refine ⟨by omega, c_101_19 (by omega) hI (show 1000 ≤ (1005 : Nat) ∧ (1005 : Nat) < 1039 from by omega) (fun Av4 Kv4 Tv4 xI4 => ?_)⟩
      exact ⟨by omega, q _ _ _ _ xI4 (show (1 : Int) = 0 ∨ (1 : Int) = 1 from by omega)⟩

set_option maxRecDepth 10000 in
set_option maxHeartbeats 400000 in
theorem c_106_19_4 {sz : Int} {d : Nat} {A B Y : zF} {K : Nat} {T : zT}  {Q : Int → zF → zF → zF → Nat → zT → Prop} (hd : 2 ≤ d) (hI : XI 1 sz A K T)  (q : ∀ (r : Int) (A' : zF) (K' : Nat) (T' : zT), XI 1 sz A' K' T' → (-1 ≤ r ∧ r ≤ 3000) → Q r A' B Y K' T') : pzI d 106 [.inr (.inr (19 : Nat)), .inr (.inr (4 : Nat))] (A, B, Y, K, T) Q := by
  refine pzI_of 34 [] [] ?_
  show ((1000 ≤ K ∧ K < 1064) ∧ (1000 ≤ (1000 : Nat) ∧ (1000 : Nat) < 1064) ∧ (K = (1000 : Nat) → ((0 ≤ (A 19 8) ∧ (A 19 8) < (3001 : Int)) ∧ (0 < d ∧ pzI (d - 1) 65 [.inr (.inr (4 : Nat)), .inl (A 19 10), .inl (A 23 ((A 19 8)).toNat)] (A, B, Y, K, T) (fun nv1 Av1 Bv1 Yv1 Kv1 Tv1 => ((-2147483648 ≤ nv1 ∧ nv1 < 2147483648) ∧ (-2147483648 ≤ (-1 : Int) ∧ (-1 : Int) < 2147483648) ∧ (nv1 = (-1 : Int) → (0 < d ∧ pzI (d - 1) 62 [.inr (.inr (4 : Nat))] (Av1, Bv1, Yv1, Kv1, Tv1) (fun nv2 Av2 Bv2 Yv2 Kv2 Tv2 => ((-2147483648 ≤ nv2 ∧ nv2 < 2147483648) ∧ (nv2 = (0 : Int) → (0 < d ∧ pzV (d - 1) 100 [.inr (.inr (19 : Nat))] (Av2, Bv2, Yv2, Kv2, Tv2) (fun Av3 Bv3 Yv3 Kv3 Tv3 => ((-2147483648 ≤ (Av3 19 6) ∧ (Av3 19 6) < 2147483648) ∧ ((Av3 19 6) ≠ (0 : Int) → Q (-1 : Int) Av3 Bv3 Yv3 Kv3 Tv3) ∧ ((Av3 19 6) = (0 : Int) → Q (A 19 8) Av3 Bv3 Yv3 Kv3 Tv3))))) ∧ (nv2 ≠ (0 : Int) → (0 < d ∧ pzV (d - 1) 102 [.inr (.inr (19 : Nat)), .inl (4 : Int), .inl (Av2 19 10)] (Av2, Bv2, Yv2, Kv2, Tv2) (fun Av4 Bv4 Yv4 Kv4 Tv4 => (0 < d ∧ pzV (d - 1) 100 [.inr (.inr (19 : Nat))] (Av4, Bv4, Yv4, Kv4, Tv4) (fun Av5 Bv5 Yv5 Kv5 Tv5 => ((-2147483648 ≤ (Av5 19 6) ∧ (Av5 19 6) < 2147483648) ∧ ((Av5 19 6) ≠ (0 : Int) → Q (-1 : Int) Av5 Bv5 Yv5 Kv5 Tv5) ∧ ((Av5 19 6) = (0 : Int) → Q (A 19 8) Av5 Bv5 Yv5 Kv5 Tv5))))))))))) ∧ (nv1 ≠ (-1 : Int) → (0 < d ∧ pzV (d - 1) 102 [.inr (.inr (19 : Nat)), .inl (3 : Int), .inl (Av1 19 10)] (Av1, Bv1, Yv1, Kv1, Tv1) (fun Av6 Bv6 Yv6 Kv6 Tv6 => (0 < d ∧ pzV (d - 1) 100 [.inr (.inr (19 : Nat))] (Av6, Bv6, Yv6, Kv6, Tv6) (fun Av7 Bv7 Yv7 Kv7 Tv7 => ((-2147483648 ≤ (Av7 19 6) ∧ (Av7 19 6) < 2147483648) ∧ ((Av7 19 6) ≠ (0 : Int) → Q (-1 : Int) Av7 Bv7 Yv7 Kv7 Tv7) ∧ ((Av7 19 6) = (0 : Int) → Q (A 19 8) Av7 Bv7 Yv7 Kv7 Tv7)))))))))))) ∧ (K ≠ (1000 : Nat) → (0 < d ∧ pzV (d - 1) 102 [.inr (.inr (19 : Nat)), .inl (1 : Int), .inl (A 19 10)] (A, B, Y, K, T) (fun Av8 Bv8 Yv8 Kv8 Tv8 => (0 < d ∧ pzV (d - 1) 100 [.inr (.inr (19 : Nat))] (Av8, Bv8, Yv8, Kv8, Tv8) (fun Av9 Bv9 Yv9 Kv9 Tv9 => ((-2147483648 ≤ (Av9 19 6) ∧ (Av9 19 6) < 2147483648) ∧ ((Av9 19 6) ≠ (0 : Int) → Q (-1 : Int) Av9 Bv9 Yv9 Kv9 Tv9) ∧ ((Av9 19 6) = (0 : Int) → Q (A 19 8) Av9 Bv9 Yv9 Kv9 Tv9))))))))
  have f1 := XI_r_19_8 hI
  have f2 := XI_rK hI
  refine ⟨by omega, by omega, fun z3 => ?_, fun z3 => ?_⟩
  · skip
    have f4 := XI_r_19_10 hI
    refine ⟨by omega, ?_⟩
    have f5 := XI_r_23 hI (((A 19 8)).toNat)
    refine ⟨by omega, c_65_4 (by omega) hI (show 0 ≤ (A 19 10) ∧ (A 19 10) ≤ 3000 from by omega) (show -3000 ≤ (A 23 ((A 19 8)).toNat) ∧ (A 23 ((A 19 8)).toNat) ≤ 3000 from by omega) (fun nv1 xp1_0 => ?_)⟩
    replace xp1_0 : -1 ≤ nv1 ∧ nv1 < 40 := xp1_0
    refine ⟨by omega, by omega, fun z6 => ?_, fun z6 => ?_⟩
    · skip
      refine ⟨by omega, c_62_4 (by omega) hI  (fun nv2 xp2_0 => ?_)⟩
      replace xp2_0 : (nv2 = 0 ∧ (A 4 4) < 40) ∨ nv2 = 1 := xp2_0
      refine ⟨by omega, fun z7 => ?_, fun z7 => ?_⟩
      · skip
        refine ⟨by omega, c_100_19 (by omega) hI  (fun Av3 Kv3 Tv3 xI3 xp3_0 => ?_)⟩
        replace xp3_0 : (Av3 19 6) = (A 19 6) := xp3_0
        have f8 := XI_r_19_6 xI3
        refine ⟨by omega, fun z9 => ?_, fun z9 => ?_⟩
        · skip
          exact q _ _ _ _ xI3 (show -1 ≤ (-1 : Int) ∧ (-1 : Int) ≤ 3000 from by omega)
        · skip
          exact q _ _ _ _ xI3 (show -1 ≤ (A 19 8) ∧ (A 19 8) ≤ 3000 from by omega)
      · skip
        refine ⟨by omega, c_102_19 (by omega) hI (show 1 ≤ (4 : Int) ∧ (4 : Int) ≤ 9 from by omega) (show 0 ≤ (A 19 10) ∧ (A 19 10) ≤ 3000 from by omega) (fun Av4 Kv4 Tv4 xI4 xp4_0 => ?_)⟩
        replace xp4_0 : 1 ≤ (Av4 19 6) := xp4_0
        refine ⟨by omega, c_100_19 (by omega) xI4  (fun Av5 Kv5 Tv5 xI5 xp5_0 => ?_)⟩
        replace xp5_0 : (Av5 19 6) = (Av4 19 6) := xp5_0
        have f10 := XI_r_19_6 xI5
        refine ⟨by omega, fun z11 => ?_, fun z11 => ?_⟩
        · skip
          exact q _ _ _ _ xI5 (show -1 ≤ (-1 : Int) ∧ (-1 : Int) ≤ 3000 from by omega)
        · skip
          exact q _ _ _ _ xI5 (show -1 ≤ (A 19 8) ∧ (A 19 8) ≤ 3000 from by omega)
    · skip
      refine ⟨by omega, c_102_19 (by omega) hI (show 1 ≤ (3 : Int) ∧ (3 : Int) ≤ 9 from by omega) (show 0 ≤ (A 19 10) ∧ (A 19 10) ≤ 3000 from by omega) (fun Av6 Kv6 Tv6 xI6 xp6_0 => ?_)⟩
      replace xp6_0 : 1 ≤ (Av6 19 6) := xp6_0
      refine ⟨by omega, c_100_19 (by omega) xI6  (fun Av7 Kv7 Tv7 xI7 xp7_0 => ?_)⟩
      replace xp7_0 : (Av7 19 6) = (Av6 19 6) := xp7_0
      have f12 := XI_r_19_6 xI7
      refine ⟨by omega, fun z13 => ?_, fun z13 => ?_⟩
      · skip
        exact q _ _ _ _ xI7 (show -1 ≤ (-1 : Int) ∧ (-1 : Int) ≤ 3000 from by omega)
      · skip
        exact q _ _ _ _ xI7 (show -1 ≤ (A 19 8) ∧ (A 19 8) ≤ 3000 from by omega)
  · skip
    have f14 := XI_r_19_10 hI
    refine ⟨by omega, c_102_19 (by omega) hI (show 1 ≤ (1 : Int) ∧ (1 : Int) ≤ 9 from by omega) (show 0 ≤ (A 19 10) ∧ (A 19 10) ≤ 3000 from by omega) (fun Av8 Kv8 Tv8 xI8 xp8_0 => ?_)⟩
    replace xp8_0 : 1 ≤ (Av8 19 6) := xp8_0
    refine ⟨by omega, c_100_19 (by omega) xI8  (fun Av9 Kv9 Tv9 xI9 xp9_0 => ?_)⟩
    replace xp9_0 : (Av9 19 6) = (Av8 19 6) := xp9_0
    have f15 := XI_r_19_6 xI9
    refine ⟨by omega, fun z16 => ?_, fun z16 => ?_⟩
    · skip
      exact q _ _ _ _ xI9 (show -1 ≤ (-1 : Int) ∧ (-1 : Int) ≤ 3000 from by omega)
    · skip
      exact q _ _ _ _ xI9 (show -1 ≤ (A 19 8) ∧ (A 19 8) ≤ 3000 from by omega)

set_option maxRecDepth 10000 in
set_option maxHeartbeats 400000 in
theorem c_106_19_10 {sz : Int} {d : Nat} {A B Y : zF} {K : Nat} {T : zT}  {Q : Int → zF → zF → zF → Nat → zT → Prop} (hd : 2 ≤ d) (hI : XI 1 sz A K T)  (q : ∀ (r : Int) (A' : zF) (K' : Nat) (T' : zT), XI 1 sz A' K' T' → (-1 ≤ r ∧ r ≤ 3000) → Q r A' B Y K' T') : pzI d 106 [.inr (.inr (19 : Nat)), .inr (.inr (10 : Nat))] (A, B, Y, K, T) Q := by
  refine pzI_of 34 [] [] ?_
  show ((1000 ≤ K ∧ K < 1064) ∧ (1000 ≤ (1000 : Nat) ∧ (1000 : Nat) < 1064) ∧ (K = (1000 : Nat) → ((0 ≤ (A 19 8) ∧ (A 19 8) < (3001 : Int)) ∧ (0 < d ∧ pzI (d - 1) 65 [.inr (.inr (10 : Nat)), .inl (A 19 10), .inl (A 23 ((A 19 8)).toNat)] (A, B, Y, K, T) (fun nv1 Av1 Bv1 Yv1 Kv1 Tv1 => ((-2147483648 ≤ nv1 ∧ nv1 < 2147483648) ∧ (-2147483648 ≤ (-1 : Int) ∧ (-1 : Int) < 2147483648) ∧ (nv1 = (-1 : Int) → (0 < d ∧ pzI (d - 1) 62 [.inr (.inr (10 : Nat))] (Av1, Bv1, Yv1, Kv1, Tv1) (fun nv2 Av2 Bv2 Yv2 Kv2 Tv2 => ((-2147483648 ≤ nv2 ∧ nv2 < 2147483648) ∧ (nv2 = (0 : Int) → (0 < d ∧ pzV (d - 1) 100 [.inr (.inr (19 : Nat))] (Av2, Bv2, Yv2, Kv2, Tv2) (fun Av3 Bv3 Yv3 Kv3 Tv3 => ((-2147483648 ≤ (Av3 19 6) ∧ (Av3 19 6) < 2147483648) ∧ ((Av3 19 6) ≠ (0 : Int) → Q (-1 : Int) Av3 Bv3 Yv3 Kv3 Tv3) ∧ ((Av3 19 6) = (0 : Int) → Q (A 19 8) Av3 Bv3 Yv3 Kv3 Tv3))))) ∧ (nv2 ≠ (0 : Int) → (0 < d ∧ pzV (d - 1) 102 [.inr (.inr (19 : Nat)), .inl (4 : Int), .inl (Av2 19 10)] (Av2, Bv2, Yv2, Kv2, Tv2) (fun Av4 Bv4 Yv4 Kv4 Tv4 => (0 < d ∧ pzV (d - 1) 100 [.inr (.inr (19 : Nat))] (Av4, Bv4, Yv4, Kv4, Tv4) (fun Av5 Bv5 Yv5 Kv5 Tv5 => ((-2147483648 ≤ (Av5 19 6) ∧ (Av5 19 6) < 2147483648) ∧ ((Av5 19 6) ≠ (0 : Int) → Q (-1 : Int) Av5 Bv5 Yv5 Kv5 Tv5) ∧ ((Av5 19 6) = (0 : Int) → Q (A 19 8) Av5 Bv5 Yv5 Kv5 Tv5))))))))))) ∧ (nv1 ≠ (-1 : Int) → (0 < d ∧ pzV (d - 1) 102 [.inr (.inr (19 : Nat)), .inl (3 : Int), .inl (Av1 19 10)] (Av1, Bv1, Yv1, Kv1, Tv1) (fun Av6 Bv6 Yv6 Kv6 Tv6 => (0 < d ∧ pzV (d - 1) 100 [.inr (.inr (19 : Nat))] (Av6, Bv6, Yv6, Kv6, Tv6) (fun Av7 Bv7 Yv7 Kv7 Tv7 => ((-2147483648 ≤ (Av7 19 6) ∧ (Av7 19 6) < 2147483648) ∧ ((Av7 19 6) ≠ (0 : Int) → Q (-1 : Int) Av7 Bv7 Yv7 Kv7 Tv7) ∧ ((Av7 19 6) = (0 : Int) → Q (A 19 8) Av7 Bv7 Yv7 Kv7 Tv7)))))))))))) ∧ (K ≠ (1000 : Nat) → (0 < d ∧ pzV (d - 1) 102 [.inr (.inr (19 : Nat)), .inl (1 : Int), .inl (A 19 10)] (A, B, Y, K, T) (fun Av8 Bv8 Yv8 Kv8 Tv8 => (0 < d ∧ pzV (d - 1) 100 [.inr (.inr (19 : Nat))] (Av8, Bv8, Yv8, Kv8, Tv8) (fun Av9 Bv9 Yv9 Kv9 Tv9 => ((-2147483648 ≤ (Av9 19 6) ∧ (Av9 19 6) < 2147483648) ∧ ((Av9 19 6) ≠ (0 : Int) → Q (-1 : Int) Av9 Bv9 Yv9 Kv9 Tv9) ∧ ((Av9 19 6) = (0 : Int) → Q (A 19 8) Av9 Bv9 Yv9 Kv9 Tv9))))))))
  have f1 := XI_r_19_8 hI
  have f2 := XI_rK hI
  refine ⟨by omega, by omega, fun z3 => ?_, fun z3 => ?_⟩
  · skip
    have f4 := XI_r_19_10 hI
    refine ⟨by omega, ?_⟩
    have f5 := XI_r_23 hI (((A 19 8)).toNat)
    refine ⟨by omega, c_65_10 (by omega) hI (show 0 ≤ (A 19 10) ∧ (A 19 10) ≤ 3000 from by omega) (show -3000 ≤ (A 23 ((A 19 8)).toNat) ∧ (A 23 ((A 19 8)).toNat) ≤ 3000 from by omega) (fun nv1 xp1_0 => ?_)⟩
    replace xp1_0 : -1 ≤ nv1 ∧ nv1 < 6 := xp1_0
    refine ⟨by omega, by omega, fun z6 => ?_, fun z6 => ?_⟩
    · skip
      refine ⟨by omega, c_62_10 (by omega) hI  (fun nv2 xp2_0 => ?_)⟩
      replace xp2_0 : (nv2 = 0 ∧ (A 10 4) < 6) ∨ nv2 = 1 := xp2_0
      refine ⟨by omega, fun z7 => ?_, fun z7 => ?_⟩
      · skip
        refine ⟨by omega, c_100_19 (by omega) hI  (fun Av3 Kv3 Tv3 xI3 xp3_0 => ?_)⟩
        replace xp3_0 : (Av3 19 6) = (A 19 6) := xp3_0
        have f8 := XI_r_19_6 xI3
        refine ⟨by omega, fun z9 => ?_, fun z9 => ?_⟩
        · skip
          exact q _ _ _ _ xI3 (show -1 ≤ (-1 : Int) ∧ (-1 : Int) ≤ 3000 from by omega)
        · skip
          exact q _ _ _ _ xI3 (show -1 ≤ (A 19 8) ∧ (A 19 8) ≤ 3000 from by omega)
      · skip
        refine ⟨by omega, c_102_19 (by omega) hI (show 1 ≤ (4 : Int) ∧ (4 : Int) ≤ 9 from by omega) (show 0 ≤ (A 19 10) ∧ (A 19 10) ≤ 3000 from by omega) (fun Av4 Kv4 Tv4 xI4 xp4_0 => ?_)⟩
        replace xp4_0 : 1 ≤ (Av4 19 6) := xp4_0
        refine ⟨by omega, c_100_19 (by omega) xI4  (fun Av5 Kv5 Tv5 xI5 xp5_0 => ?_)⟩
        replace xp5_0 : (Av5 19 6) = (Av4 19 6) := xp5_0
        have f10 := XI_r_19_6 xI5
        refine ⟨by omega, fun z11 => ?_, fun z11 => ?_⟩
        · skip
          exact q _ _ _ _ xI5 (show -1 ≤ (-1 : Int) ∧ (-1 : Int) ≤ 3000 from by omega)
        · skip
          exact q _ _ _ _ xI5 (show -1 ≤ (A 19 8) ∧ (A 19 8) ≤ 3000 from by omega)
    · skip
      refine ⟨by omega, c_102_19 (by omega) hI (show 1 ≤ (3 : Int) ∧ (3 : Int) ≤ 9 from by omega) (show 0 ≤ (A 19 10) ∧ (A 19 10) ≤ 3000 from by omega) (fun Av6 Kv6 Tv6 xI6 xp6_0 => ?_)⟩
      replace xp6_0 : 1 ≤ (Av6 19 6) := xp6_0
      refine ⟨by omega, c_100_19 (by omega) xI6  (fun Av7 Kv7 Tv7 xI7 xp7_0 => ?_)⟩
      replace xp7_0 : (Av7 19 6) = (Av6 19 6) := xp7_0
      have f12 := XI_r_19_6 xI7
      refine ⟨by omega, fun z13 => ?_, fun z13 => ?_⟩
      · skip
        exact q _ _ _ _ xI7 (show -1 ≤ (-1 : Int) ∧ (-1 : Int) ≤ 3000 from by omega)
      · skip
        exact q _ _ _ _ xI7 (show -1 ≤ (A 19 8) ∧ (A 19 8) ≤ 3000 from by omega)
  · skip
    have f14 := XI_r_19_10 hI
    refine ⟨by omega, c_102_19 (by omega) hI (show 1 ≤ (1 : Int) ∧ (1 : Int) ≤ 9 from by omega) (show 0 ≤ (A 19 10) ∧ (A 19 10) ≤ 3000 from by omega) (fun Av8 Kv8 Tv8 xI8 xp8_0 => ?_)⟩
    replace xp8_0 : 1 ≤ (Av8 19 6) := xp8_0
    refine ⟨by omega, c_100_19 (by omega) xI8  (fun Av9 Kv9 Tv9 xI9 xp9_0 => ?_)⟩
    replace xp9_0 : (Av9 19 6) = (Av8 19 6) := xp9_0
    have f15 := XI_r_19_6 xI9
    refine ⟨by omega, fun z16 => ?_, fun z16 => ?_⟩
    · skip
      exact q _ _ _ _ xI9 (show -1 ≤ (-1 : Int) ∧ (-1 : Int) ≤ 3000 from by omega)
    · skip
      exact q _ _ _ _ xI9 (show -1 ≤ (A 19 8) ∧ (A 19 8) ≤ 3000 from by omega)

set_option maxRecDepth 10000 in
set_option maxHeartbeats 400000 in
theorem c_106_19_25 {sz : Int} {d : Nat} {A B Y : zF} {K : Nat} {T : zT}  {Q : Int → zF → zF → zF → Nat → zT → Prop} (hd : 2 ≤ d) (hI : XI 1 sz A K T)  (q : ∀ (r : Int) (A' : zF) (K' : Nat) (T' : zT), XI 1 sz A' K' T' → (-1 ≤ r ∧ r ≤ 3000) → Q r A' B Y K' T') : pzI d 106 [.inr (.inr (19 : Nat)), .inr (.inr (25 : Nat))] (A, B, Y, K, T) Q := by
  refine pzI_of 34 [] [] ?_
  show ((1000 ≤ K ∧ K < 1064) ∧ (1000 ≤ (1000 : Nat) ∧ (1000 : Nat) < 1064) ∧ (K = (1000 : Nat) → ((0 ≤ (A 19 8) ∧ (A 19 8) < (3001 : Int)) ∧ (0 < d ∧ pzI (d - 1) 65 [.inr (.inr (25 : Nat)), .inl (A 19 10), .inl (A 23 ((A 19 8)).toNat)] (A, B, Y, K, T) (fun nv1 Av1 Bv1 Yv1 Kv1 Tv1 => ((-2147483648 ≤ nv1 ∧ nv1 < 2147483648) ∧ (-2147483648 ≤ (-1 : Int) ∧ (-1 : Int) < 2147483648) ∧ (nv1 = (-1 : Int) → (0 < d ∧ pzI (d - 1) 62 [.inr (.inr (25 : Nat))] (Av1, Bv1, Yv1, Kv1, Tv1) (fun nv2 Av2 Bv2 Yv2 Kv2 Tv2 => ((-2147483648 ≤ nv2 ∧ nv2 < 2147483648) ∧ (nv2 = (0 : Int) → (0 < d ∧ pzV (d - 1) 100 [.inr (.inr (19 : Nat))] (Av2, Bv2, Yv2, Kv2, Tv2) (fun Av3 Bv3 Yv3 Kv3 Tv3 => ((-2147483648 ≤ (Av3 19 6) ∧ (Av3 19 6) < 2147483648) ∧ ((Av3 19 6) ≠ (0 : Int) → Q (-1 : Int) Av3 Bv3 Yv3 Kv3 Tv3) ∧ ((Av3 19 6) = (0 : Int) → Q (A 19 8) Av3 Bv3 Yv3 Kv3 Tv3))))) ∧ (nv2 ≠ (0 : Int) → (0 < d ∧ pzV (d - 1) 102 [.inr (.inr (19 : Nat)), .inl (4 : Int), .inl (Av2 19 10)] (Av2, Bv2, Yv2, Kv2, Tv2) (fun Av4 Bv4 Yv4 Kv4 Tv4 => (0 < d ∧ pzV (d - 1) 100 [.inr (.inr (19 : Nat))] (Av4, Bv4, Yv4, Kv4, Tv4) (fun Av5 Bv5 Yv5 Kv5 Tv5 => ((-2147483648 ≤ (Av5 19 6) ∧ (Av5 19 6) < 2147483648) ∧ ((Av5 19 6) ≠ (0 : Int) → Q (-1 : Int) Av5 Bv5 Yv5 Kv5 Tv5) ∧ ((Av5 19 6) = (0 : Int) → Q (A 19 8) Av5 Bv5 Yv5 Kv5 Tv5))))))))))) ∧ (nv1 ≠ (-1 : Int) → (0 < d ∧ pzV (d - 1) 102 [.inr (.inr (19 : Nat)), .inl (3 : Int), .inl (Av1 19 10)] (Av1, Bv1, Yv1, Kv1, Tv1) (fun Av6 Bv6 Yv6 Kv6 Tv6 => (0 < d ∧ pzV (d - 1) 100 [.inr (.inr (19 : Nat))] (Av6, Bv6, Yv6, Kv6, Tv6) (fun Av7 Bv7 Yv7 Kv7 Tv7 => ((-2147483648 ≤ (Av7 19 6) ∧ (Av7 19 6) < 2147483648) ∧ ((Av7 19 6) ≠ (0 : Int) → Q (-1 : Int) Av7 Bv7 Yv7 Kv7 Tv7) ∧ ((Av7 19 6) = (0 : Int) → Q (A 19 8) Av7 Bv7 Yv7 Kv7 Tv7)))))))))))) ∧ (K ≠ (1000 : Nat) → (0 < d ∧ pzV (d - 1) 102 [.inr (.inr (19 : Nat)), .inl (1 : Int), .inl (A 19 10)] (A, B, Y, K, T) (fun Av8 Bv8 Yv8 Kv8 Tv8 => (0 < d ∧ pzV (d - 1) 100 [.inr (.inr (19 : Nat))] (Av8, Bv8, Yv8, Kv8, Tv8) (fun Av9 Bv9 Yv9 Kv9 Tv9 => ((-2147483648 ≤ (Av9 19 6) ∧ (Av9 19 6) < 2147483648) ∧ ((Av9 19 6) ≠ (0 : Int) → Q (-1 : Int) Av9 Bv9 Yv9 Kv9 Tv9) ∧ ((Av9 19 6) = (0 : Int) → Q (A 19 8) Av9 Bv9 Yv9 Kv9 Tv9))))))))
  have f1 := XI_r_19_8 hI
  have f2 := XI_rK hI
  refine ⟨by omega, by omega, fun z3 => ?_, fun z3 => ?_⟩
  · skip
    have f4 := XI_r_19_10 hI
    refine ⟨by omega, ?_⟩
    have f5 := XI_r_23 hI (((A 19 8)).toNat)
    refine ⟨by omega, c_65_25 (by omega) hI (show 0 ≤ (A 19 10) ∧ (A 19 10) ≤ 3000 from by omega) (show -3000 ≤ (A 23 ((A 19 8)).toNat) ∧ (A 23 ((A 19 8)).toNat) ≤ 3000 from by omega) (fun nv1 xp1_0 => ?_)⟩
    replace xp1_0 : -1 ≤ nv1 ∧ nv1 < 12 := xp1_0
    refine ⟨by omega, by omega, fun z6 => ?_, fun z6 => ?_⟩
    · skip
      refine ⟨by omega, c_62_25 (by omega) hI  (fun nv2 xp2_0 => ?_)⟩
      replace xp2_0 : (nv2 = 0 ∧ (A 25 4) < 12) ∨ nv2 = 1 := xp2_0
      refine ⟨by omega, fun z7 => ?_, fun z7 => ?_⟩
      · skip
        refine ⟨by omega, c_100_19 (by omega) hI  (fun Av3 Kv3 Tv3 xI3 xp3_0 => ?_)⟩
        replace xp3_0 : (Av3 19 6) = (A 19 6) := xp3_0
        have f8 := XI_r_19_6 xI3
        refine ⟨by omega, fun z9 => ?_, fun z9 => ?_⟩
        · skip
          exact q _ _ _ _ xI3 (show -1 ≤ (-1 : Int) ∧ (-1 : Int) ≤ 3000 from by omega)
        · skip
          exact q _ _ _ _ xI3 (show -1 ≤ (A 19 8) ∧ (A 19 8) ≤ 3000 from by omega)
      · skip
        refine ⟨by omega, c_102_19 (by omega) hI (show 1 ≤ (4 : Int) ∧ (4 : Int) ≤ 9 from by omega) (show 0 ≤ (A 19 10) ∧ (A 19 10) ≤ 3000 from by omega) (fun Av4 Kv4 Tv4 xI4 xp4_0 => ?_)⟩
        replace xp4_0 : 1 ≤ (Av4 19 6) := xp4_0
        refine ⟨by omega, c_100_19 (by omega) xI4  (fun Av5 Kv5 Tv5 xI5 xp5_0 => ?_)⟩
        replace xp5_0 : (Av5 19 6) = (Av4 19 6) := xp5_0
        have f10 := XI_r_19_6 xI5
        refine ⟨by omega, fun z11 => ?_, fun z11 => ?_⟩
        · skip
          exact q _ _ _ _ xI5 (show -1 ≤ (-1 : Int) ∧ (-1 : Int) ≤ 3000 from by omega)
        · skip
          exact q _ _ _ _ xI5 (show -1 ≤ (A 19 8) ∧ (A 19 8) ≤ 3000 from by omega)
    · skip
      refine ⟨by omega, c_102_19 (by omega) hI (show 1 ≤ (3 : Int) ∧ (3 : Int) ≤ 9 from by omega) (show 0 ≤ (A 19 10) ∧ (A 19 10) ≤ 3000 from by omega) (fun Av6 Kv6 Tv6 xI6 xp6_0 => ?_)⟩
      replace xp6_0 : 1 ≤ (Av6 19 6) := xp6_0
      refine ⟨by omega, c_100_19 (by omega) xI6  (fun Av7 Kv7 Tv7 xI7 xp7_0 => ?_)⟩
      replace xp7_0 : (Av7 19 6) = (Av6 19 6) := xp7_0
      have f12 := XI_r_19_6 xI7
      refine ⟨by omega, fun z13 => ?_, fun z13 => ?_⟩
      · skip
        exact q _ _ _ _ xI7 (show -1 ≤ (-1 : Int) ∧ (-1 : Int) ≤ 3000 from by omega)
      · skip
        exact q _ _ _ _ xI7 (show -1 ≤ (A 19 8) ∧ (A 19 8) ≤ 3000 from by omega)
  · skip
    have f14 := XI_r_19_10 hI
    refine ⟨by omega, c_102_19 (by omega) hI (show 1 ≤ (1 : Int) ∧ (1 : Int) ≤ 9 from by omega) (show 0 ≤ (A 19 10) ∧ (A 19 10) ≤ 3000 from by omega) (fun Av8 Kv8 Tv8 xI8 xp8_0 => ?_)⟩
    replace xp8_0 : 1 ≤ (Av8 19 6) := xp8_0
    refine ⟨by omega, c_100_19 (by omega) xI8  (fun Av9 Kv9 Tv9 xI9 xp9_0 => ?_)⟩
    replace xp9_0 : (Av9 19 6) = (Av8 19 6) := xp9_0
    have f15 := XI_r_19_6 xI9
    refine ⟨by omega, fun z16 => ?_, fun z16 => ?_⟩
    · skip
      exact q _ _ _ _ xI9 (show -1 ≤ (-1 : Int) ∧ (-1 : Int) ≤ 3000 from by omega)
    · skip
      exact q _ _ _ _ xI9 (show -1 ≤ (A 19 8) ∧ (A 19 8) ≤ 3000 from by omega)

set_option maxRecDepth 10000 in
set_option maxHeartbeats 400000 in
theorem c_108_19 {sz : Int} {d : Nat} {A B Y : zF} {K : Nat} {T : zT}  {Q : Int → zF → zF → zF → Nat → zT → Prop} (hd : 2 ≤ d) (hI : XI 1 sz A K T)  (q : ∀ (r : Int) (A' : zF) (K' : Nat) (T' : zT), XI 1 sz A' K' T' → (-2147483648 ≤ r ∧ r ≤ 2147483647) → (1 ≤ (A' 19 6) ∨ r ≤ 64) → Q r A' B Y K' T') : pzI d 108 [.inr (.inr (19 : Nat))] (A, B, Y, K, T) Q := by
  refine pzI_of 31 [] [] ?_
  show (0 < d ∧ pzV (d - 1) 100 [.inr (.inr (19 : Nat))] (A, B, Y, K, T) (fun Av1 Bv1 Yv1 Kv1 Tv1 => ((0 ≤ (Av1 19 8) ∧ (Av1 19 8) < (3001 : Int)) ∧ ((1000 ≤ Kv1 ∧ Kv1 < 1064) ∧ (1000 ≤ (1001 : Nat) ∧ (1001 : Nat) < 1064) ∧ (Kv1 ≠ (1001 : Nat) → (0 < d ∧ pzV (d - 1) 102 [.inr (.inr (19 : Nat)), .inl (1 : Int), .inl (Av1 19 10)] (Av1, Bv1, Yv1, Kv1, Tv1) (fun Av2 Bv2 Yv2 Kv2 Tv2 => (0 < d ∧ pzV (d - 1) 100 [.inr (.inr (19 : Nat))] (Av2, Bv2, Yv2, Kv2, Tv2) (fun Av3 Bv3 Yv3 Kv3 Tv3 => (0 < d ∧ pzV (d - 1) 101 [.inr (.inr (19 : Nat)), .inr (.inr (1034 : Nat))] (Av3, Bv3, Yv3, Kv3, Tv3) (fun Av4 Bv4 Yv4 Kv4 Tv4 => Q (Av1 24 ((Av1 19 8)).toNat) Av4 Bv4 Yv4 Kv4 Tv4))))))) ∧ (Kv1 = (1001 : Nat) → ((-2147483648 ≤ (Av1 24 ((Av1 19 8)).toNat) ∧ (Av1 24 ((Av1 19 8)).toNat) < 2147483648) ∧ (-2147483648 ≤ (1 : Int) ∧ (1 : Int) < 2147483648) ∧ ((Av1 24 ((Av1 19 8)).toNat) < (1 : Int) → (0 < d ∧ pzV (d - 1) 102 [.inr (.inr (19 : Nat)), .inl (1 : Int), .inl (Av1 19 10)] (Av1, Bv1, Yv1, Kv1, Tv1) (fun Av5 Bv5 Yv5 Kv5 Tv5 => (0 < d ∧ pzV (d - 1) 100 [.inr (.inr (19 : Nat))] (Av5, Bv5, Yv5, Kv5, Tv5) (fun Av6 Bv6 Yv6 Kv6 Tv6 => (0 < d ∧ pzV (d - 1) 101 [.inr (.inr (19 : Nat)), .inr (.inr (1034 : Nat))] (Av6, Bv6, Yv6, Kv6, Tv6) (fun Av7 Bv7 Yv7 Kv7 Tv7 => Q (Av1 24 ((Av1 19 8)).toNat) Av7 Bv7 Yv7 Kv7 Tv7))))))) ∧ ((1 : Int) ≤ (Av1 24 ((Av1 19 8)).toNat) → ((-2147483648 ≤ (Av1 24 ((Av1 19 8)).toNat) ∧ (Av1 24 ((Av1 19 8)).toNat) < 2147483648) ∧ (-2147483648 ≤ (64 : Int) ∧ (64 : Int) < 2147483648) ∧ ((Av1 24 ((Av1 19 8)).toNat) ≤ (64 : Int) → (0 < d ∧ pzV (d - 1) 100 [.inr (.inr (19 : Nat))] (Av1, Bv1, Yv1, Kv1, Tv1) (fun Av8 Bv8 Yv8 Kv8 Tv8 => (0 < d ∧ pzV (d - 1) 101 [.inr (.inr (19 : Nat)), .inr (.inr (1034 : Nat))] (Av8, Bv8, Yv8, Kv8, Tv8) (fun Av9 Bv9 Yv9 Kv9 Tv9 => Q (Av1 24 ((Av1 19 8)).toNat) Av9 Bv9 Yv9 Kv9 Tv9))))) ∧ ((64 : Int) < (Av1 24 ((Av1 19 8)).toNat) → (0 < d ∧ pzV (d - 1) 102 [.inr (.inr (19 : Nat)), .inl (1 : Int), .inl (Av1 19 10)] (Av1, Bv1, Yv1, Kv1, Tv1) (fun Av10 Bv10 Yv10 Kv10 Tv10 => (0 < d ∧ pzV (d - 1) 100 [.inr (.inr (19 : Nat))] (Av10, Bv10, Yv10, Kv10, Tv10) (fun Av11 Bv11 Yv11 Kv11 Tv11 => (0 < d ∧ pzV (d - 1) 101 [.inr (.inr (19 : Nat)), .inr (.inr (1034 : Nat))] (Av11, Bv11, Yv11, Kv11, Tv11) (fun Av12 Bv12 Yv12 Kv12 Tv12 => Q (Av1 24 ((Av1 19 8)).toNat) Av12 Bv12 Yv12 Kv12 Tv12)))))))))))))))
  refine ⟨by omega, c_100_19 (by omega) hI  (fun Av1 Kv1 Tv1 xI1 xp1_0 => ?_)⟩
  replace xp1_0 : (Av1 19 6) = (A 19 6) := xp1_0
  have f1 := XI_r_19_8 xI1
  refine ⟨by omega, ?_⟩
  have f2 := XI_r_24 xI1 (((Av1 19 8)).toNat)
  have f3 := XI_rK xI1
  refine ⟨by omega, by omega, fun z4 => ?_, fun z4 => ?_⟩
  · skip
    have f5 := XI_r_19_10 xI1
    refine ⟨by omega, c_102_19 (by omega) xI1 (show 1 ≤ (1 : Int) ∧ (1 : Int) ≤ 9 from by omega) (show 0 ≤ (Av1 19 10) ∧ (Av1 19 10) ≤ 3000 from by omega) (fun Av2 Kv2 Tv2 xI2 xp2_0 => ?_)⟩
    replace xp2_0 : 1 ≤ (Av2 19 6) := xp2_0
    refine ⟨by omega, c_100_19 (by omega) xI2  (fun Av3 Kv3 Tv3 xI3 xp3_0 => ?_)⟩
    replace xp3_0 : (Av3 19 6) = (Av2 19 6) := xp3_0
    refine ⟨by omega, c_101f (by omega) xI3 (show 1000 ≤ (1034 : Nat) ∧ (1034 : Nat) < 1039 from by omega) (fun Av4 Kv4 Tv4 xI4 xp4_0 => ?_)⟩
    replace xp4_0 : (Av4 19 6) = (Av3 19 6) ∨ 1 ≤ (Av4 19 6) := xp4_0
    exact q _ _ _ _ xI4 (show -2147483648 ≤ (Av1 24 ((Av1 19 8)).toNat) ∧ (Av1 24 ((Av1 19 8)).toNat) ≤ 2147483647 from by omega) (show 1 ≤ (Av4 19 6) ∨ (Av1 24 ((Av1 19 8)).toNat) ≤ 64 from by omega)
  · skip
    refine ⟨by omega, by omega, fun z6 => ?_, fun z6 => ?_⟩
    · skip
      have f7 := XI_r_19_10 xI1
      refine ⟨by omega, c_102_19 (by omega) xI1 (show 1 ≤ (1 : Int) ∧ (1 : Int) ≤ 9 from by omega) (show 0 ≤ (Av1 19 10) ∧ (Av1 19 10) ≤ 3000 from by omega) (fun Av5 Kv5 Tv5 xI5 xp5_0 => ?_)⟩
      replace xp5_0 : 1 ≤ (Av5 19 6) := xp5_0
      refine ⟨by omega, c_100_19 (by omega) xI5  (fun Av6 Kv6 Tv6 xI6 xp6_0 => ?_)⟩
      replace xp6_0 : (Av6 19 6) = (Av5 19 6) := xp6_0
      refine ⟨by omega, c_101f (by omega) xI6 (show 1000 ≤ (1034 : Nat) ∧ (1034 : Nat) < 1039 from by omega) (fun Av7 Kv7 Tv7 xI7 xp7_0 => ?_)⟩
      replace xp7_0 : (Av7 19 6) = (Av6 19 6) ∨ 1 ≤ (Av7 19 6) := xp7_0
      exact q _ _ _ _ xI7 (show -2147483648 ≤ (Av1 24 ((Av1 19 8)).toNat) ∧ (Av1 24 ((Av1 19 8)).toNat) ≤ 2147483647 from by omega) (show 1 ≤ (Av7 19 6) ∨ (Av1 24 ((Av1 19 8)).toNat) ≤ 64 from by omega)
    · skip
      refine ⟨by omega, by omega, fun z8 => ?_, fun z8 => ?_⟩
      · skip
        refine ⟨by omega, c_100_19 (by omega) xI1  (fun Av8 Kv8 Tv8 xI8 xp8_0 => ?_)⟩
        replace xp8_0 : (Av8 19 6) = (Av1 19 6) := xp8_0
        refine ⟨by omega, c_101f (by omega) xI8 (show 1000 ≤ (1034 : Nat) ∧ (1034 : Nat) < 1039 from by omega) (fun Av9 Kv9 Tv9 xI9 xp9_0 => ?_)⟩
        replace xp9_0 : (Av9 19 6) = (Av8 19 6) ∨ 1 ≤ (Av9 19 6) := xp9_0
        exact q _ _ _ _ xI9 (show -2147483648 ≤ (Av1 24 ((Av1 19 8)).toNat) ∧ (Av1 24 ((Av1 19 8)).toNat) ≤ 2147483647 from by omega) (show 1 ≤ (Av9 19 6) ∨ (Av1 24 ((Av1 19 8)).toNat) ≤ 64 from by omega)
      · skip
        have f9 := XI_r_19_10 xI1
        refine ⟨by omega, c_102_19 (by omega) xI1 (show 1 ≤ (1 : Int) ∧ (1 : Int) ≤ 9 from by omega) (show 0 ≤ (Av1 19 10) ∧ (Av1 19 10) ≤ 3000 from by omega) (fun Av10 Kv10 Tv10 xI10 xp10_0 => ?_)⟩
        replace xp10_0 : 1 ≤ (Av10 19 6) := xp10_0
        refine ⟨by omega, c_100_19 (by omega) xI10  (fun Av11 Kv11 Tv11 xI11 xp11_0 => ?_)⟩
        replace xp11_0 : (Av11 19 6) = (Av10 19 6) := xp11_0
        refine ⟨by omega, c_101f (by omega) xI11 (show 1000 ≤ (1034 : Nat) ∧ (1034 : Nat) < 1039 from by omega) (fun Av12 Kv12 Tv12 xI12 xp12_0 => ?_)⟩
        replace xp12_0 : (Av12 19 6) = (Av11 19 6) ∨ 1 ≤ (Av12 19 6) := xp12_0
        exact q _ _ _ _ xI12 (show -2147483648 ≤ (Av1 24 ((Av1 19 8)).toNat) ∧ (Av1 24 ((Av1 19 8)).toNat) ≤ 2147483647 from by omega) (show 1 ≤ (Av12 19 6) ∨ (Av1 24 ((Av1 19 8)).toNat) ≤ 64 from by omega)

set_option maxRecDepth 10000 in
set_option maxHeartbeats 400000 in
theorem c_107_19 {sz : Int} {d : Nat} {A B Y : zF} {K : Nat} {T : zT}  {Q : zF → zF → zF → Nat → zT → Prop} (hd : 3 ≤ d) (hI : XI 1 sz A K T)  (q : ∀ (A' : zF) (K' : Nat) (T' : zT), XI 1 sz A' K' T' → Q A' B Y K' T') : pzV d 107 [.inr (.inr (19 : Nat))] (A, B, Y, K, T) Q := by
  refine pzV_of 39 [] [] ?_
  show (0 < d ∧ pzI (d - 1) 105 [.inr (.inr (19 : Nat))] (A, B, Y, K, T) (fun nv1 Av1 Bv1 Yv1 Kv1 Tv1 => (0 < d ∧ pzI (d - 1) 106 [.inr (.inr (19 : Nat)), .inr (.inr (4 : Nat))] (Av1, Bv1, Yv1, Kv1, Tv1) (fun nv2 Av2 Bv2 Yv2 Kv2 Tv2 => ((1000 ≤ Kv2 ∧ Kv2 < 1064) ∧ (1000 ≤ (1033 : Nat) ∧ (1033 : Nat) < 1064) ∧ (Kv2 ≠ (1033 : Nat) → (0 < d ∧ pzV (d - 1) 101 [.inr (.inr (19 : Nat)), .inr (.inr (1037 : Nat))] (Av2, Bv2, Yv2, Kv2, Tv2) (fun Av3 Bv3 Yv3 Kv3 Tv3 => ((-2147483648 ≤ nv2 ∧ nv2 < 2147483648) ∧ (-2147483648 ≤ (-1 : Int) ∧ (-1 : Int) < 2147483648) ∧ (nv2 = (-1 : Int) → Q Av3 Bv3 Yv3 Kv3 Tv3) ∧ (nv2 ≠ (-1 : Int) → ((0 ≤ nv2 ∧ nv2 < (3001 : Int)) ∧ ((0 ≤ nv2 ∧ nv2 < (3001 : Int)) ∧ (0 < d ∧ pzV (d - 1) 75 [.inr (.inr (2 : Nat)), .inl (Av3 22 (nv2).toNat), .inl (Av3 23 (nv2).toNat), .inl nv1, .inl (0 : Int)] (Av3, Bv3, Yv3, Kv3, Tv3) (fun Av4 Bv4 Yv4 Kv4 Tv4 => Q Av4 Bv4 Yv4 Kv4 Tv4))))))))) ∧ (Kv2 = (1033 : Nat) → (0 < d ∧ pzI (d - 1) 108 [.inr (.inr (19 : Nat))] (Av2, Bv2, Yv2, Kv2, Tv2) (fun nv5 Av5 Bv5 Yv5 Kv5 Tv5 => (0 < d ∧ pzV (d - 1) 101 [.inr (.inr (19 : Nat)), .inr (.inr (1037 : Nat))] (Av5, Bv5, Yv5, Kv5, Tv5) (fun Av6 Bv6 Yv6 Kv6 Tv6 => ((-2147483648 ≤ nv2 ∧ nv2 < 2147483648) ∧ (-2147483648 ≤ (-1 : Int) ∧ (-1 : Int) < 2147483648) ∧ (nv2 = (-1 : Int) → Q Av6 Bv6 Yv6 Kv6 Tv6) ∧ (nv2 ≠ (-1 : Int) → ((0 ≤ nv2 ∧ nv2 < (3001 : Int)) ∧ ((0 ≤ nv2 ∧ nv2 < (3001 : Int)) ∧ (0 < d ∧ pzV (d - 1) 75 [.inr (.inr (2 : Nat)), .inl (Av6 22 (nv2).toNat), .inl (Av6 23 (nv2).toNat), .inl nv1, .inl nv5] (Av6, Bv6, Yv6, Kv6, Tv6) (fun Av7 Bv7 Yv7 Kv7 Tv7 => Q Av7 Bv7 Yv7 Kv7 Tv7))))))))))))))))
  refine ⟨by omega, c_105_19 (by omega) hI  (fun nv1 Av1 Kv1 Tv1 xI1 xp1_0 => ?_)⟩
  replace xp1_0 : nv1 = 0 ∨ nv1 = 1 := xp1_0
  refine ⟨by omega, c_106_19_4 (by omega) xI1  (fun nv2 Av2 Kv2 Tv2 xI2 xp2_0 => ?_)⟩
  replace xp2_0 : -1 ≤ nv2 ∧ nv2 ≤ 3000 := xp2_0
  have f1 := XI_rK xI2
  refine ⟨by omega, by omega, fun z2 => ?_, fun z2 => ?_⟩
  · skip
    refine ⟨by omega, c_101f (by omega) xI2 (show 1000 ≤ (1037 : Nat) ∧ (1037 : Nat) < 1039 from by omega) (fun Av3 Kv3 Tv3 xI3 xp3_0 => ?_)⟩
    replace xp3_0 : (Av3 19 6) = (Av2 19 6) ∨ 1 ≤ (Av3 19 6) := xp3_0
    have g8 := XI_p_22 xI3 (nv2).toNat
    refine ⟨by omega, by omega, fun z3 => ?_, fun z3 => ?_⟩
    · skip
      exact q _ _ _ xI3 
    · skip
      refine ⟨by omega, ?_⟩
      have f4 := XI_r_22 xI3 ((nv2).toNat)
      refine ⟨by omega, ?_⟩
      have f5 := XI_r_23 xI3 ((nv2).toNat)
      refine ⟨by omega, c_75_2 (by omega) xI3 (show 0 ≤ (Av3 22 (nv2).toNat) ∧ (Av3 22 (nv2).toNat) ≤ 3000 from by omega) (show -3000 ≤ (Av3 23 (nv2).toNat) ∧ (Av3 23 (nv2).toNat) ≤ 3000 from by omega) (show (Av3 22 (nv2).toNat) + (Av3 23 (nv2).toNat) ≤ 3000 from by omega) (show nv1 = 0 ∨ nv1 = 1 from by omega) (show -2147483648 ≤ (0 : Int) ∧ (0 : Int) ≤ 2147483647 from by omega) (show (Av3 19 6) = 0 → (0 : Int) ≤ 64 from by omega) (fun Av4 Kv4 Tv4 xI4 => ?_)⟩
      exact q _ _ _ xI4 
  · skip
    refine ⟨by omega, c_108_19 (by omega) xI2  (fun nv5 Av5 Kv5 Tv5 xI5 xp5_0 xp5_1 => ?_)⟩
    replace xp5_0 : -2147483648 ≤ nv5 ∧ nv5 ≤ 2147483647 := xp5_0
    replace xp5_1 : 1 ≤ (Av5 19 6) ∨ nv5 ≤ 64 := xp5_1
    refine ⟨by omega, c_101f (by omega) xI5 (show 1000 ≤ (1037 : Nat) ∧ (1037 : Nat) < 1039 from by omega) (fun Av6 Kv6 Tv6 xI6 xp6_0 => ?_)⟩
    replace xp6_0 : (Av6 19 6) = (Av5 19 6) ∨ 1 ≤ (Av6 19 6) := xp6_0
    have g8 := XI_p_22 xI6 (nv2).toNat
    refine ⟨by omega, by omega, fun z6 => ?_, fun z6 => ?_⟩
    · skip
      exact q _ _ _ xI6 
    · skip
      refine ⟨by omega, ?_⟩
      have f7 := XI_r_22 xI6 ((nv2).toNat)
      refine ⟨by omega, ?_⟩
      have f8 := XI_r_23 xI6 ((nv2).toNat)
      refine ⟨by omega, c_75_2 (by omega) xI6 (show 0 ≤ (Av6 22 (nv2).toNat) ∧ (Av6 22 (nv2).toNat) ≤ 3000 from by omega) (show -3000 ≤ (Av6 23 (nv2).toNat) ∧ (Av6 23 (nv2).toNat) ≤ 3000 from by omega) (show (Av6 22 (nv2).toNat) + (Av6 23 (nv2).toNat) ≤ 3000 from by omega) (show nv1 = 0 ∨ nv1 = 1 from by omega) (show -2147483648 ≤ nv5 ∧ nv5 ≤ 2147483647 from by omega) (show (Av6 19 6) = 0 → nv5 ≤ 64 from by omega) (fun Av7 Kv7 Tv7 xI7 => ?_)⟩
      exact q _ _ _ xI7 

set_option maxRecDepth 10000 in
set_option maxHeartbeats 400000 in
theorem c_112_19 {sz : Int} {d : Nat} {A B Y : zF} {K : Nat} {T : zT}  {Q : zF → zF → zF → Nat → zT → Prop} (hd : 3 ≤ d) (hI : XI 1 sz A K T)  (q : ∀ (A' : zF) (K' : Nat) (T' : zT), XI 1 sz A' K' T' → Q A' B Y K' T') : pzV d 112 [.inr (.inr (19 : Nat))] (A, B, Y, K, T) Q := by
  refine pzV_of 26 [] [] ?_
  show (0 < d ∧ pzI (d - 1) 105 [.inr (.inr (19 : Nat))] (A, B, Y, K, T) (fun nv1 Av1 Bv1 Yv1 Kv1 Tv1 => (0 < d ∧ pzI (d - 1) 106 [.inr (.inr (19 : Nat)), .inr (.inr (25 : Nat))] (Av1, Bv1, Yv1, Kv1, Tv1) (fun nv2 Av2 Bv2 Yv2 Kv2 Tv2 => ((-2147483648 ≤ nv2 ∧ nv2 < 2147483648) ∧ (-2147483648 ≤ (-1 : Int) ∧ (-1 : Int) < 2147483648) ∧ (nv2 = (-1 : Int) → Q Av2 Bv2 Yv2 Kv2 Tv2) ∧ (nv2 ≠ (-1 : Int) → ((0 ≤ nv2 ∧ nv2 < (3001 : Int)) ∧ ((0 ≤ nv2 ∧ nv2 < (3001 : Int)) ∧ (0 < d ∧ pzV (d - 1) 64 [.inr (.inr (25 : Nat)), .inl (Av2 22 (nv2).toNat), .inl (Av2 23 (nv2).toNat), .inl nv1] (Av2, Bv2, Yv2, Kv2, Tv2) (fun Av3 Bv3 Yv3 Kv3 Tv3 => Q Av3 Bv3 Yv3 Kv3 Tv3))))))))))
  refine ⟨by omega, c_105_19 (by omega) hI  (fun nv1 Av1 Kv1 Tv1 xI1 xp1_0 => ?_)⟩
  replace xp1_0 : nv1 = 0 ∨ nv1 = 1 := xp1_0
  refine ⟨by omega, c_106_19_25 (by omega) xI1  (fun nv2 Av2 Kv2 Tv2 xI2 xp2_0 => ?_)⟩
  replace xp2_0 : -1 ≤ nv2 ∧ nv2 ≤ 3000 := xp2_0
  have g8 := XI_p_22 xI2 (nv2).toNat
  refine ⟨by omega, by omega, fun z1 => ?_, fun z1 => ?_⟩
  · skip
    exact q _ _ _ xI2 
  · skip
    refine ⟨by omega, ?_⟩
    have f2 := XI_r_22 xI2 ((nv2).toNat)
    refine ⟨by omega, ?_⟩
    have f3 := XI_r_23 xI2 ((nv2).toNat)
    refine ⟨by omega, c_64_25 (by omega) xI2 (show 0 ≤ (Av2 22 (nv2).toNat) ∧ (Av2 22 (nv2).toNat) ≤ 3000 from by omega) (show -3000 ≤ (Av2 23 (nv2).toNat) ∧ (Av2 23 (nv2).toNat) ≤ 3000 from by omega) (show (Av2 22 (nv2).toNat) + (Av2 23 (nv2).toNat) ≤ 3000 from by omega) (show nv1 = 0 ∨ nv1 = 1 from by omega) (fun Av3 Kv3 Tv3 xI3 => ?_)⟩
    exact q _ _ _ xI3 

set_option maxRecDepth 10000 in
set_option maxHeartbeats 400000 in
theorem c_111_19 {sz : Int} {d : Nat} {A B Y : zF} {K : Nat} {T : zT}  {Q : zF → zF → zF → Nat → zT → Prop} (hd : 4 ≤ d) (hI : XI 1 sz A K T)  (q : ∀ (A' : zF) (K' : Nat) (T' : zT), XI 1 sz A' K' T' → Q A' B Y K' T') : pzV d 111 [.inr (.inr (19 : Nat))] (A, B, Y, K, T) Q := by
  have L25 : ∀ (n : Nat) (e : Int) (A2 : zF) (K2 : Nat) (T2 : zT), XI 1 sz A2 K2 T2 → (0 ≤ e ∧ e ≤ 3000) → (e) < (n : Int) → pq d 111 25 [some (.inr (.inr (19 : Nat))), some (.inl e)] [] (A2, B, Y, K2, T2) (qV Q) := by
    intro n
    induction n with
    | zero =>
      intro e A2 K2 T2 hI2 i0 hm
      exfalso
      omega
    | succ n ih =>
      intro e A2 K2 T2 hI2 i0 hm
      refine pq_of 12 [(25, [])] [] ?_
      show ((-2147483648 ≤ e ∧ e < 2147483648) ∧ (e ≤ (0 : Int) → (0 < d ∧ pzV (d - 1) 101 [.inr (.inr (19 : Nat)), .inr (.inr (1032 : Nat))] (A2, B, Y, K2, T2) (fun Av101 Bv101 Yv101 Kv101 Tv101 => Q Av101 Bv101 Yv101 Kv101 Tv101))) ∧ ((0 : Int) < e → ((1000 ≤ K2 ∧ K2 < 1064) ∧ (1000 ≤ (1038 : Nat) ∧ (1038 : Nat) < 1064) ∧ (K2 ≠ (1038 : Nat) → (0 < d ∧ pzV (d - 1) 101 [.inr (.inr (19 : Nat)), .inr (.inr (1032 : Nat))] (A2, B, Y, K2, T2) (fun Av102 Bv102 Yv102 Kv102 Tv102 => Q Av102 Bv102 Yv102 Kv102 Tv102))) ∧ (K2 = (1038 : Nat) → (0 < d ∧ pzV (d - 1) 100 [.inr (.inr (19 : Nat))] (A2, B, Y, K2, T2) (fun Av103 Bv103 Yv103 Kv103 Tv103 => (0 < d ∧ pzV (d - 1) 112 [.inr (.inr (19 : Nat))] (Av103, Bv103, Yv103, Kv103, Tv103) (fun Av104 Bv104 Yv104 Kv104 Tv104 => pq d 111 25 [some (.inr (.inr (19 : Nat))), some (.inl (e + (-1 : Int)))] [] (Av104, Bv104, Yv104, Kv104, Tv104) (qV Q)))))))))
      refine ⟨by omega, fun z1 => ?_, fun z1 => ?_⟩
      · skip
        refine ⟨by omega, c_101_19 (by omega) hI2 (show 1000 ≤ (1032 : Nat) ∧ (1032 : Nat) < 1039 from by omega) (fun Av101 Kv101 Tv101 xI101 => ?_)⟩
        exact q _ _ _ xI101 
      · skip
        have f2 := XI_rK hI2
        refine ⟨by omega, by omega, fun z3 => ?_, fun z3 => ?_⟩
        · skip
          refine ⟨by omega, c_101_19 (by omega) hI2 (show 1000 ≤ (1032 : Nat) ∧ (1032 : Nat) < 1039 from by omega) (fun Av102 Kv102 Tv102 xI102 => ?_)⟩
          exact q _ _ _ xI102 
        · skip
          refine ⟨by omega, c_100_19 (by omega) hI2  (fun Av103 Kv103 Tv103 xI103 xp103_0 => ?_)⟩
          replace xp103_0 : (Av103 19 6) = (A2 19 6) := xp103_0
          refine ⟨by omega, c_112_19 (by omega) xI103  (fun Av104 Kv104 Tv104 xI104 => ?_)⟩
          exact ih ((e + (-1 : Int))) _ _ _ xI104 (show 0 ≤ (e + (-1 : Int)) ∧ (e + (-1 : Int)) ≤ 3000 from by omega) (by show (e + (-1 : Int)) < _; omega)
  refine pzV_of 11 [(25, [])] [] ?_
  show (0 < d ∧ pzV (d - 1) 101 [.inr (.inr (19 : Nat)), .inr (.inr (1031 : Nat))] (A, B, Y, K, T) (fun Av1 Bv1 Yv1 Kv1 Tv1 => ((1000 ≤ Kv1 ∧ Kv1 < 1064) ∧ (1000 ≤ (1032 : Nat) ∧ (1032 : Nat) < 1064) ∧ (Kv1 = (1032 : Nat) → (0 < d ∧ pzV (d - 1) 101 [.inr (.inr (19 : Nat)), .inr (.inr (1032 : Nat))] (Av1, Bv1, Yv1, Kv1, Tv1) (fun Av2 Bv2 Yv2 Kv2 Tv2 => Q Av2 Bv2 Yv2 Kv2 Tv2))) ∧ (Kv1 ≠ (1032 : Nat) → (0 < d ∧ pzV (d - 1) 112 [.inr (.inr (19 : Nat))] (Av1, Bv1, Yv1, Kv1, Tv1) (fun Av3 Bv3 Yv3 Kv3 Tv3 => pq d 111 25 [some (.inr (.inr (19 : Nat))), some (.inl (3000 : Int))] [] (Av3, Bv3, Yv3, Kv3, Tv3) (qV Q)))))))
  refine ⟨by omega, c_101_19 (by omega) hI (show 1000 ≤ (1031 : Nat) ∧ (1031 : Nat) < 1039 from by omega) (fun Av1 Kv1 Tv1 xI1 => ?_)⟩
  have f1 := XI_rK xI1
  refine ⟨by omega, by omega, fun z2 => ?_, fun z2 => ?_⟩
  · skip
    refine ⟨by omega, c_101_19 (by omega) xI1 (show 1000 ≤ (1032 : Nat) ∧ (1032 : Nat) < 1039 from by omega) (fun Av2 Kv2 Tv2 xI2 => ?_)⟩
    exact q _ _ _ xI2 
  · skip
    refine ⟨by omega, c_112_19 (by omega) xI1  (fun Av3 Kv3 Tv3 xI3 => ?_)⟩
    exact L25 (((3000 : Int)) + 1).toNat ((3000 : Int)) _ _ _ xI3 (show 0 ≤ (3000 : Int) ∧ (3000 : Int) ≤ 3000 from by omega) (by show (3000 : Int) < _; omega)

set_option maxRecDepth 10000 in
set_option maxHeartbeats 400000 in
theorem c_109_19 {sz : Int} {d : Nat} {A B Y : zF} {K : Nat} {T : zT}  {Q : zF → zF → zF → Nat → zT → Prop} (hd : 5 ≤ d) (hI : XI 1 sz A K T)  (q : ∀ (A' : zF) (K' : Nat) (T' : zT), XI 1 sz A' K' T' → Q A' B Y K' T') : pzV d 109 [.inr (.inr (19 : Nat))] (A, B, Y, K, T) Q := by
  have L65 : ∀ (n : Nat) (e : Int) (A2 : zF) (K2 : Nat) (T2 : zT), XI 1 sz A2 K2 T2 → (0 ≤ e ∧ e ≤ 3000) → (e) < (n : Int) → pq d 109 65 [some (.inr (.inr (19 : Nat))), some (.inl e)] [] (A2, B, Y, K2, T2) (qV Q) := by
    intro n
    induction n with
    | zero =>
      intro e A2 K2 T2 hI2 i0 hm
      exfalso
      omega
    | succ n ih =>
      intro e A2 K2 T2 hI2 i0 hm
      refine pq_of 13 [(65, [])] [] ?_
      show ((-2147483648 ≤ e ∧ e < 2147483648) ∧ (e ≤ (0 : Int) → Q A2 B Y K2 T2) ∧ ((0 : Int) < e → ((1000 ≤ K2 ∧ K2 < 1039) ∧ (0 < d ∧ pzI (d - 1) 86 [.inr (.inr K2)] (A2, B, Y, K2, T2) (fun nv101 Av101 Bv101 Yv101 Kv101 Tv101 => ((-2147483648 ≤ nv101 ∧ nv101 < 2147483648) ∧ (nv101 = (0 : Int) → Q Av101 Bv101 Yv101 Kv101 Tv101) ∧ (nv101 ≠ (0 : Int) → (0 < d ∧ pzV (d - 1) 112 [.inr (.inr (19 : Nat))] (Av101, Bv101, Yv101, Kv101, Tv101) (fun Av102 Bv102 Yv102 Kv102 Tv102 => (0 < d ∧ pzV (d - 1) 101 [.inr (.inr (19 : Nat)), .inr (.inr (1037 : Nat))] (Av102, Bv102, Yv102, Kv102, Tv102) (fun Av103 Bv103 Yv103 Kv103 Tv103 => pq d 109 65 [some (.inr (.inr (19 : Nat))), some (.inl (e + (-1 : Int)))] [] (Av103, Bv103, Yv103, Kv103, Tv103) (qV Q))))))))))))
      refine ⟨by omega, fun z1 => ?_, fun z1 => ?_⟩
      · skip
        exact q _ _ _ hI2 
      · skip
        have f2 := XI_rK hI2
        refine ⟨by omega, by omega, c_86 (by omega) (show 1000 ≤ K2 ∧ K2 < 1039 from by omega) (fun nv101 xp101_0 => ?_)⟩
        replace xp101_0 : nv101 = 0 ∨ nv101 = 1 := xp101_0
        refine ⟨by omega, fun z3 => ?_, fun z3 => ?_⟩
        · skip
          exact q _ _ _ hI2 
        · skip
          refine ⟨by omega, c_112_19 (by omega) hI2  (fun Av102 Kv102 Tv102 xI102 => ?_)⟩
          refine ⟨by omega, c_101_19 (by omega) xI102 (show 1000 ≤ (1037 : Nat) ∧ (1037 : Nat) < 1039 from by omega) (fun Av103 Kv103 Tv103 xI103 => ?_)⟩
          exact ih ((e + (-1 : Int))) _ _ _ xI103 (show 0 ≤ (e + (-1 : Int)) ∧ (e + (-1 : Int)) ≤ 3000 from by omega) (by show (e + (-1 : Int)) < _; omega)
  refine pzV_of 31 [(65, [])] [] ?_
  show (0 < d ∧ pzV (d - 1) 100 [.inr (.inr (19 : Nat))] (A, B, Y, K, T) (fun Av1 Bv1 Yv1 Kv1 Tv1 => (0 < d ∧ pzI (d - 1) 105 [.inr (.inr (19 : Nat))] (Av1, Bv1, Yv1, Kv1, Tv1) (fun nv2 Av2 Bv2 Yv2 Kv2 Tv2 => ((nv2 = 0 ∨ nv2 = 1) ∧ (0 < d ∧ pzI (d - 1) 106 [.inr (.inr (19 : Nat)), .inr (.inr (10 : Nat))] ((zu Av2 19 5 nv2), Bv2, Yv2, Kv2, Tv2) (fun nv3 Av3 Bv3 Yv3 Kv3 Tv3 => (0 < d ∧ pzV (d - 1) 61 [.inr (.inr (25 : Nat))] ((zu Av3 19 4 nv3), Bv3, Yv3, Kv3, Tv3) (fun Av4 Bv4 Yv4 Kv4 Tv4 => (0 < d ∧ pzV (d - 1) 111 [.inr (.inr (19 : Nat))] (Av4, Bv4, Yv4, Kv4, Tv4) (fun Av5 Bv5 Yv5 Kv5 Tv5 => (0 < d ∧ pzV (d - 1) 76 [.inr (.inr (2 : Nat)), .inr (.inr (25 : Nat))] (Av5, Bv5, Yv5, Kv5, Tv5) (fun Av6 Bv6 Yv6 Kv6 Tv6 => (((1 : Int) = 0 ∨ (1 : Int) = 1) ∧ (0 < d ∧ pzV (d - 1) 101 [.inr (.inr (19 : Nat)), .inr (.inr (1035 : Nat))] ((zu Av6 19 3 (1 : Int)), Bv6, Yv6, Kv6, Tv6) (fun Av7 Bv7 Yv7 Kv7 Tv7 => pq d 109 65 [some (.inr (.inr (19 : Nat))), some (.inl (3000 : Int))] [] (Av7, Bv7, Yv7, Kv7, Tv7) (qV Q)))))))))))))))))
  refine ⟨by omega, c_100_19 (by omega) hI  (fun Av1 Kv1 Tv1 xI1 xp1_0 => ?_)⟩
  replace xp1_0 : (Av1 19 6) = (A 19 6) := xp1_0
  refine ⟨by omega, c_105_19 (by omega) xI1  (fun nv2 Av2 Kv2 Tv2 xI2 xp2_0 => ?_)⟩
  replace xp2_0 : nv2 = 0 ∨ nv2 = 1 := xp2_0
  refine ⟨by omega, ?_⟩
  have hI1 := XI_w_19_5 (v := nv2) xI2 (by omega) (by omega)
  refine ⟨by omega, c_106_19_10 (by omega) hI1  (fun nv3 Av3 Kv3 Tv3 xI3 xp3_0 => ?_)⟩
  replace xp3_0 : -1 ≤ nv3 ∧ nv3 ≤ 3000 := xp3_0
  have hI2 := XI_w_19_4 (v := nv3) xI3 (by omega) (by omega)
  refine ⟨by omega, c_61_25 (by omega) hI2  (fun Av4 Kv4 Tv4 xI4 xp4_0 xp4_1 => ?_)⟩
  replace xp4_0 : (Av4 25 4) = 0 := xp4_0
  replace xp4_1 : (Av4 4 4) = (Av3 4 4) := xp4_1
  refine ⟨by omega, c_111_19 (by omega) xI4  (fun Av5 Kv5 Tv5 xI5 => ?_)⟩
  refine ⟨by omega, c_76_2_25 (by omega) xI5  (fun Av6 Kv6 Tv6 xI6 => ?_)⟩
  refine ⟨by omega, ?_⟩
  have hI3 := XI_w_19_3 (v := (1 : Int)) xI6 (by omega) (by omega)
  refine ⟨by omega, c_101_19 (by omega) hI3 (show 1000 ≤ (1035 : Nat) ∧ (1035 : Nat) < 1039 from by omega) (fun Av7 Kv7 Tv7 xI7 => ?_)⟩
  exact L65 (((3000 : Int)) + 1).toNat ((3000 : Int)) _ _ _ xI7 (show 0 ≤ (3000 : Int) ∧ (3000 : Int) ≤ 3000 from by omega) (by show (3000 : Int) < _; omega)

set_option maxRecDepth 10000 in
set_option maxHeartbeats 400000 in
theorem c_129_19 {sz : Int} {d : Nat} {A B Y : zF} {K : Nat} {T : zT} {x : Int} {y : Int} {Q : Int → zF → zF → zF → Nat → zT → Prop} (hd : 2 ≤ d) (hI : XI 1 sz A K T) (p1 : 0 ≤ x ∧ x ≤ 3000) (p2 : y = 0 ∨ y = 1) (q : ∀ (r : Int) (A' : zF) (K' : Nat) (T' : zT), XI 1 sz A' K' T' → (-1 ≤ r ∧ r ≤ 51) → Q r A' B Y K' T') : pzI d 129 [.inr (.inr (19 : Nat)), .inl x, .inl y] (A, B, Y, K, T) Q := by
  refine pzI_of 49 [] [] ?_
  show ((0 ≤ x ∧ x < (3001 : Int)) ∧ ((-2147483648 ≤ (A 19 3) ∧ (A 19 3) < 2147483648) ∧ ((A 19 3) = (0 : Int) → ((-2147483648 ≤ (-1 : Int) ∧ (-1 : Int) < 2147483648) ∧ (-2147483648 ≤ (-1 : Int) ∧ (-1 : Int) < 2147483648) ∧ ((-1 : Int) = (-1 : Int) → ((0 ≤ x ∧ x < (3001 : Int)) ∧ (0 < d ∧ pzI (d - 1) 65 [.inr (.inr (4 : Nat)), .inl (A 22 (x).toNat), .inl (A 23 (x).toNat)] (A, B, Y, K, T) (fun nv1 Av1 Bv1 Yv1 Kv1 Tv1 => ((-2147483648 ≤ nv1 ∧ nv1 < 2147483648) ∧ (-2147483648 ≤ (-1 : Int) ∧ (-1 : Int) < 2147483648) ∧ (nv1 = (-1 : Int) → (0 < d ∧ pzV (d - 1) 102 [.inr (.inr (19 : Nat)), .inl (2 : Int), .inl (A 22 (x).toNat)] (Av1, Bv1, Yv1, Kv1, Tv1) (fun Av2 Bv2 Yv2 Kv2 Tv2 => Q (-1 : Int) Av2 Bv2 Yv2 Kv2 Tv2))) ∧ (nv1 ≠ (-1 : Int) → (0 < d ∧ pzI (d - 1) 77 [.inr (.inr (2 : Nat)), .inl nv1] (Av1, Bv1, Yv1, Kv1, Tv1) (fun nv3 Av3 Bv3 Yv3 Kv3 Tv3 => ((-2147483648 ≤ nv3 ∧ nv3 < 2147483648) ∧ (-2147483648 ≤ y ∧ y < 2147483648) ∧ (nv3 = y → Q nv1 Av3 Bv3 Yv3 Kv3 Tv3) ∧ (nv3 ≠ y → (0 < d ∧ pzV (d - 1) 102 [.inr (.inr (19 : Nat)), .inl (2 : Int), .inl (A 22 (x).toNat)] (Av3, Bv3, Yv3, Kv3, Tv3) (fun Av4 Bv4 Yv4 Kv4 Tv4 => Q (-1 : Int) Av4 Bv4 Yv4 Kv4 Tv4)))))))))))) ∧ ((-1 : Int) ≠ (-1 : Int) → ((-2147483648 ≤ ((40 : Int) + (-1 : Int)) ∧ ((40 : Int) + (-1 : Int)) < 2147483648) ∧ (-2147483648 ≤ (-1 : Int) ∧ (-1 : Int) < 2147483648) ∧ (((40 : Int) + (-1 : Int)) = (-1 : Int) → (0 < d ∧ pzV (d - 1) 102 [.inr (.inr (19 : Nat)), .inl (2 : Int), .inl (A 22 (x).toNat)] (A, B, Y, K, T) (fun Av5 Bv5 Yv5 Kv5 Tv5 => Q (-1 : Int) Av5 Bv5 Yv5 Kv5 Tv5))) ∧ (((40 : Int) + (-1 : Int)) ≠ (-1 : Int) → (0 < d ∧ pzI (d - 1) 77 [.inr (.inr (2 : Nat)), .inl ((40 : Int) + (-1 : Int))] (A, B, Y, K, T) (fun nv6 Av6 Bv6 Yv6 Kv6 Tv6 => ((-2147483648 ≤ nv6 ∧ nv6 < 2147483648) ∧ (-2147483648 ≤ y ∧ y < 2147483648) ∧ (nv6 = y → Q ((40 : Int) + (-1 : Int)) Av6 Bv6 Yv6 Kv6 Tv6) ∧ (nv6 ≠ y → (0 < d ∧ pzV (d - 1) 102 [.inr (.inr (19 : Nat)), .inl (2 : Int), .inl (A 22 (x).toNat)] (Av6, Bv6, Yv6, Kv6, Tv6) (fun Av7 Bv7 Yv7 Kv7 Tv7 => Q (-1 : Int) Av7 Bv7 Yv7 Kv7 Tv7))))))))))) ∧ ((A 19 3) ≠ (0 : Int) → ((0 ≤ x ∧ x < (3001 : Int)) ∧ (0 < d ∧ pzI (d - 1) 65 [.inr (.inr (25 : Nat)), .inl (A 22 (x).toNat), .inl (A 23 (x).toNat)] (A, B, Y, K, T) (fun nv8 Av8 Bv8 Yv8 Kv8 Tv8 => ((-2147483648 ≤ nv8 ∧ nv8 < 2147483648) ∧ (-2147483648 ≤ (-1 : Int) ∧ (-1 : Int) < 2147483648) ∧ (nv8 = (-1 : Int) → ((0 ≤ x ∧ x < (3001 : Int)) ∧ (0 < d ∧ pzI (d - 1) 65 [.inr (.inr (4 : Nat)), .inl (A 22 (x).toNat), .inl (Av8 23 (x).toNat)] (Av8, Bv8, Yv8, Kv8, Tv8) (fun nv9 Av9 Bv9 Yv9 Kv9 Tv9 => ((-2147483648 ≤ nv9 ∧ nv9 < 2147483648) ∧ (-2147483648 ≤ (-1 : Int) ∧ (-1 : Int) < 2147483648) ∧ (nv9 = (-1 : Int) → (0 < d ∧ pzV (d - 1) 102 [.inr (.inr (19 : Nat)), .inl (2 : Int), .inl (A 22 (x).toNat)] (Av9, Bv9, Yv9, Kv9, Tv9) (fun Av10 Bv10 Yv10 Kv10 Tv10 => Q (-1 : Int) Av10 Bv10 Yv10 Kv10 Tv10))) ∧ (nv9 ≠ (-1 : Int) → (0 < d ∧ pzI (d - 1) 77 [.inr (.inr (2 : Nat)), .inl nv9] (Av9, Bv9, Yv9, Kv9, Tv9) (fun nv11 Av11 Bv11 Yv11 Kv11 Tv11 => ((-2147483648 ≤ nv11 ∧ nv11 < 2147483648) ∧ (-2147483648 ≤ y ∧ y < 2147483648) ∧ (nv11 = y → Q nv9 Av11 Bv11 Yv11 Kv11 Tv11) ∧ (nv11 ≠ y → (0 < d ∧ pzV (d - 1) 102 [.inr (.inr (19 : Nat)), .inl (2 : Int), .inl (A 22 (x).toNat)] (Av11, Bv11, Yv11, Kv11, Tv11) (fun Av12 Bv12 Yv12 Kv12 Tv12 => Q (-1 : Int) Av12 Bv12 Yv12 Kv12 Tv12)))))))))))) ∧ (nv8 ≠ (-1 : Int) → ((-2147483648 ≤ ((40 : Int) + nv8) ∧ ((40 : Int) + nv8) < 2147483648) ∧ (-2147483648 ≤ (-1 : Int) ∧ (-1 : Int) < 2147483648) ∧ (((40 : Int) + nv8) = (-1 : Int) → (0 < d ∧ pzV (d - 1) 102 [.inr (.inr (19 : Nat)), .inl (2 : Int), .inl (A 22 (x).toNat)] (Av8, Bv8, Yv8, Kv8, Tv8) (fun Av13 Bv13 Yv13 Kv13 Tv13 => Q (-1 : Int) Av13 Bv13 Yv13 Kv13 Tv13))) ∧ (((40 : Int) + nv8) ≠ (-1 : Int) → (0 < d ∧ pzI (d - 1) 77 [.inr (.inr (2 : Nat)), .inl ((40 : Int) + nv8)] (Av8, Bv8, Yv8, Kv8, Tv8) (fun nv14 Av14 Bv14 Yv14 Kv14 Tv14 => ((-2147483648 ≤ nv14 ∧ nv14 < 2147483648) ∧ (-2147483648 ≤ y ∧ y < 2147483648) ∧ (nv14 = y → Q ((40 : Int) + nv8) Av14 Bv14 Yv14 Kv14 Tv14) ∧ (nv14 ≠ y → (0 < d ∧ pzV (d - 1) 102 [.inr (.inr (19 : Nat)), .inl (2 : Int), .inl (A 22 (x).toNat)] (Av14, Bv14, Yv14, Kv14, Tv14) (fun Av15 Bv15 Yv15 Kv15 Tv15 => Q (-1 : Int) Av15 Bv15 Yv15 Kv15 Tv15))))))))))))))))
  refine ⟨by omega, ?_⟩
  have f1 := XI_r_22 hI ((x).toNat)
  have f2 := XI_r_19_3 hI
  refine ⟨by omega, fun z3 => ?_, fun z3 => ?_⟩
  · skip
    refine ⟨by omega, by omega, fun z4 => ?_, fun z4 => ?_⟩
    · skip
      refine ⟨by omega, ?_⟩
      have f5 := XI_r_23 hI ((x).toNat)
      refine ⟨by omega, c_65_4 (by omega) hI (show 0 ≤ (A 22 (x).toNat) ∧ (A 22 (x).toNat) ≤ 3000 from by omega) (show -3000 ≤ (A 23 (x).toNat) ∧ (A 23 (x).toNat) ≤ 3000 from by omega) (fun nv1 xp1_0 => ?_)⟩
      replace xp1_0 : -1 ≤ nv1 ∧ nv1 < 40 := xp1_0
      refine ⟨by omega, by omega, fun z6 => ?_, fun z6 => ?_⟩
      · skip
        refine ⟨by omega, c_102_19 (by omega) hI (show 1 ≤ (2 : Int) ∧ (2 : Int) ≤ 9 from by omega) (show 0 ≤ (A 22 (x).toNat) ∧ (A 22 (x).toNat) ≤ 3000 from by omega) (fun Av2 Kv2 Tv2 xI2 xp2_0 => ?_)⟩
        replace xp2_0 : 1 ≤ (Av2 19 6) := xp2_0
        exact q _ _ _ _ xI2 (show -1 ≤ (-1 : Int) ∧ (-1 : Int) ≤ 51 from by omega)
      · skip
        refine ⟨by omega, c_77_2 (by omega) hI (show -2147483648 ≤ nv1 ∧ nv1 ≤ 2147483647 from by omega) (fun nv3 xp3_0 => ?_)⟩
        replace xp3_0 : nv3 = 0 ∨ nv3 = 1 := xp3_0
        refine ⟨by omega, by omega, fun z7 => ?_, fun z7 => ?_⟩
        · skip
          exact q _ _ _ _ hI (show -1 ≤ nv1 ∧ nv1 ≤ 51 from by omega)
        · skip
          refine ⟨by omega, c_102_19 (by omega) hI (show 1 ≤ (2 : Int) ∧ (2 : Int) ≤ 9 from by omega) (show 0 ≤ (A 22 (x).toNat) ∧ (A 22 (x).toNat) ≤ 3000 from by omega) (fun Av4 Kv4 Tv4 xI4 xp4_0 => ?_)⟩
          replace xp4_0 : 1 ≤ (Av4 19 6) := xp4_0
          exact q _ _ _ _ xI4 (show -1 ≤ (-1 : Int) ∧ (-1 : Int) ≤ 51 from by omega)
    · skip
      exact absurd z4 (by decide)
  · skip
    refine ⟨by omega, ?_⟩
    have f10 := XI_r_23 hI ((x).toNat)
    refine ⟨by omega, c_65_25 (by omega) hI (show 0 ≤ (A 22 (x).toNat) ∧ (A 22 (x).toNat) ≤ 3000 from by omega) (show -3000 ≤ (A 23 (x).toNat) ∧ (A 23 (x).toNat) ≤ 3000 from by omega) (fun nv8 xp8_0 => ?_)⟩
    replace xp8_0 : -1 ≤ nv8 ∧ nv8 < 12 := xp8_0
    refine ⟨by omega, by omega, fun z11 => ?_, fun z11 => ?_⟩
    · skip
      refine ⟨by omega, ?_⟩
      refine ⟨by omega, c_65_4 (by omega) hI (show 0 ≤ (A 22 (x).toNat) ∧ (A 22 (x).toNat) ≤ 3000 from by omega) (show -3000 ≤ (A 23 (x).toNat) ∧ (A 23 (x).toNat) ≤ 3000 from by omega) (fun nv9 xp9_0 => ?_)⟩
      replace xp9_0 : -1 ≤ nv9 ∧ nv9 < 40 := xp9_0
      refine ⟨by omega, by omega, fun z12 => ?_, fun z12 => ?_⟩
      · skip
        refine ⟨by omega, c_102_19 (by omega) hI (show 1 ≤ (2 : Int) ∧ (2 : Int) ≤ 9 from by omega) (show 0 ≤ (A 22 (x).toNat) ∧ (A 22 (x).toNat) ≤ 3000 from by omega) (fun Av10 Kv10 Tv10 xI10 xp10_0 => ?_)⟩
        replace xp10_0 : 1 ≤ (Av10 19 6) := xp10_0
        exact q _ _ _ _ xI10 (show -1 ≤ (-1 : Int) ∧ (-1 : Int) ≤ 51 from by omega)
      · skip
        refine ⟨by omega, c_77_2 (by omega) hI (show -2147483648 ≤ nv9 ∧ nv9 ≤ 2147483647 from by omega) (fun nv11 xp11_0 => ?_)⟩
        replace xp11_0 : nv11 = 0 ∨ nv11 = 1 := xp11_0
        refine ⟨by omega, by omega, fun z13 => ?_, fun z13 => ?_⟩
        · skip
          exact q _ _ _ _ hI (show -1 ≤ nv9 ∧ nv9 ≤ 51 from by omega)
        · skip
          refine ⟨by omega, c_102_19 (by omega) hI (show 1 ≤ (2 : Int) ∧ (2 : Int) ≤ 9 from by omega) (show 0 ≤ (A 22 (x).toNat) ∧ (A 22 (x).toNat) ≤ 3000 from by omega) (fun Av12 Kv12 Tv12 xI12 xp12_0 => ?_)⟩
          replace xp12_0 : 1 ≤ (Av12 19 6) := xp12_0
          exact q _ _ _ _ xI12 (show -1 ≤ (-1 : Int) ∧ (-1 : Int) ≤ 51 from by omega)
    · skip
      refine ⟨by omega, by omega, fun z14 => ?_, fun z14 => ?_⟩
      · skip
        refine ⟨by omega, c_102_19 (by omega) hI (show 1 ≤ (2 : Int) ∧ (2 : Int) ≤ 9 from by omega) (show 0 ≤ (A 22 (x).toNat) ∧ (A 22 (x).toNat) ≤ 3000 from by omega) (fun Av13 Kv13 Tv13 xI13 xp13_0 => ?_)⟩
        replace xp13_0 : 1 ≤ (Av13 19 6) := xp13_0
        exact q _ _ _ _ xI13 (show -1 ≤ (-1 : Int) ∧ (-1 : Int) ≤ 51 from by omega)
      · skip
        refine ⟨by omega, c_77_2 (by omega) hI (show -2147483648 ≤ ((40 : Int) + nv8) ∧ ((40 : Int) + nv8) ≤ 2147483647 from by omega) (fun nv14 xp14_0 => ?_)⟩
        replace xp14_0 : nv14 = 0 ∨ nv14 = 1 := xp14_0
        refine ⟨by omega, by omega, fun z15 => ?_, fun z15 => ?_⟩
        · skip
          exact q _ _ _ _ hI (show -1 ≤ ((40 : Int) + nv8) ∧ ((40 : Int) + nv8) ≤ 51 from by omega)
        · skip
          refine ⟨by omega, c_102_19 (by omega) hI (show 1 ≤ (2 : Int) ∧ (2 : Int) ≤ 9 from by omega) (show 0 ≤ (A 22 (x).toNat) ∧ (A 22 (x).toNat) ≤ 3000 from by omega) (fun Av15 Kv15 Tv15 xI15 xp15_0 => ?_)⟩
          replace xp15_0 : 1 ≤ (Av15 19 6) := xp15_0
          exact q _ _ _ _ xI15 (show -1 ≤ (-1 : Int) ∧ (-1 : Int) ≤ 51 from by omega)

set_option maxRecDepth 10000 in
set_option maxHeartbeats 400000 in
theorem c_130_19 {sz : Int} {d : Nat} {A B Y : zF} {K : Nat} {T : zT} {x : Int} {Q : Int → zF → zF → zF → Nat → zT → Prop} (hd : 2 ≤ d) (hI : XI 1 sz A K T) (p1 : -1 ≤ x ∧ x ≤ 51) (q : ∀ (r : Int), (r = 0 ∨ r = 1) → Q r A B Y K T) : pzI d 130 [.inr (.inr (19 : Nat)), .inl x] (A, B, Y, K, T) Q := by
  refine pzI_of 10 [] [] ?_
  show ((-2147483648 ≤ x ∧ x < 2147483648) ∧ (-2147483648 ≤ (40 : Int) ∧ (40 : Int) < 2147483648) ∧ ((40 : Int) ≤ x → (0 < d ∧ pzI (d - 1) 67 [.inr (.inr (25 : Nat)), .inl (x - (40 : Int))] (A, B, Y, K, T) (fun nv1 Av1 Bv1 Yv1 Kv1 Tv1 => ((nv1 = 0 ∨ nv1 = 1) ∧ Q nv1 Av1 Bv1 Yv1 Kv1 Tv1)))) ∧ (x < (40 : Int) → (0 < d ∧ pzI (d - 1) 67 [.inr (.inr (4 : Nat)), .inl x] (A, B, Y, K, T) (fun nv2 Av2 Bv2 Yv2 Kv2 Tv2 => ((nv2 = 0 ∨ nv2 = 1) ∧ Q nv2 Av2 Bv2 Yv2 Kv2 Tv2)))))
  refine ⟨by omega, by omega, fun z1 => ?_, fun z1 => ?_⟩
  · skip
    refine ⟨by omega, c_67_25 (by omega) hI (show -2147483648 ≤ (x - (40 : Int)) ∧ (x - (40 : Int)) ≤ 2147483647 from by omega) (fun nv1 xp1_0 => ?_)⟩
    replace xp1_0 : nv1 = 0 ∨ nv1 = 1 := xp1_0
    exact ⟨by omega, q _ (show nv1 = 0 ∨ nv1 = 1 from by omega)⟩
  · skip
    refine ⟨by omega, c_67_4 (by omega) hI (show -2147483648 ≤ x ∧ x ≤ 2147483647 from by omega) (fun nv2 xp2_0 => ?_)⟩
    replace xp2_0 : nv2 = 0 ∨ nv2 = 1 := xp2_0
    exact ⟨by omega, q _ (show nv2 = 0 ∨ nv2 = 1 from by omega)⟩

set_option maxRecDepth 10000 in
set_option maxHeartbeats 400000 in
theorem c_131_19 {sz : Int} {d : Nat} {A B Y : zF} {K : Nat} {T : zT} {x : Int} {Q : Int → zF → zF → zF → Nat → zT → Prop} (hd : 1 ≤ d) (hI : XI 1 sz A K T) (p1 : -1 ≤ x ∧ x ≤ 51) (q : ∀ (r : Int), (-2147483648 ≤ r ∧ r ≤ 2147483647) → Q r A B Y K T) : pzI d 131 [.inr (.inr (19 : Nat)), .inl x] (A, B, Y, K, T) Q := by
  refine pzI_of 12 [] [] ?_
  show ((-2147483648 ≤ x ∧ x < 2147483648) ∧ (-2147483648 ≤ (40 : Int) ∧ (40 : Int) < 2147483648) ∧ ((40 : Int) ≤ x → (0 < d ∧ pzI (d - 1) 72 [.inl (A 10 4), .inl (x - (40 : Int))] (A, B, Y, K, T) (fun nv1 Av1 Bv1 Yv1 Kv1 Tv1 => Q nv1 Av1 Bv1 Yv1 Kv1 Tv1))) ∧ (x < (40 : Int) → (0 < d ∧ pzI (d - 1) 71 [.inl x, .inl (0 : Int)] (A, B, Y, K, T) (fun nv2 Av2 Bv2 Yv2 Kv2 Tv2 => Q nv2 Av2 Bv2 Yv2 Kv2 Tv2))))
  refine ⟨by omega, by omega, fun z1 => ?_, fun z1 => ?_⟩
  · skip
    have f2 := XI_r_10_4 hI
    refine ⟨by omega, c_72 (by omega)  (fun nv1 xp1_0 => ?_)⟩
    replace xp1_0 : nv1 = 2560 + (A 10 4) * 12 + (x - (40 : Int)) := xp1_0
    exact q _ (show -2147483648 ≤ nv1 ∧ nv1 ≤ 2147483647 from by omega)
  · skip
    refine ⟨by omega, c_71 (by omega)  (fun nv2 xp2_0 => ?_)⟩
    replace xp2_0 : nv2 = x * 64 + (0 : Int) := xp2_0
    exact q _ (show -2147483648 ≤ nv2 ∧ nv2 ≤ 2147483647 from by omega)

