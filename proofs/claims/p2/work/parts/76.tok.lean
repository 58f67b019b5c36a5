/-! The class: tokens -/
set_option maxRecDepth 10000 in
set_option maxHeartbeats 400000 in
theorem c_96 {d : Nat} {A B Y : zF} {K : Nat} {T : zT} {x : Int} {Q : Int → zF → zF → zF → Nat → zT → Prop} (hd : 0 ≤ d) (p1 : 0 ≤ x ∧ x < 65536) (q : ∀ (r : Int), ((r = 1 ∧ 48 ≤ x ∧ x ≤ 57) ∨ r = 0) → Q r A B Y K T) : pzI d 96 [.inl x] (A, B, Y, K, T) Q := by
  refine pzI_of 9 [] [] ?_
  show ((-2147483648 ≤ x ∧ x < 2147483648) ∧ (-2147483648 ≤ (48 : Int) ∧ (48 : Int) < 2147483648) ∧ (x < (48 : Int) → (((0 : Int) = 0 ∨ (0 : Int) = 1) ∧ Q (0 : Int) A B Y K T)) ∧ ((48 : Int) ≤ x → ((-2147483648 ≤ x ∧ x < 2147483648) ∧ (-2147483648 ≤ (57 : Int) ∧ (57 : Int) < 2147483648) ∧ ((57 : Int) < x → (((0 : Int) = 0 ∨ (0 : Int) = 1) ∧ Q (0 : Int) A B Y K T)) ∧ (x ≤ (57 : Int) → (((1 : Int) = 0 ∨ (1 : Int) = 1) ∧ Q (1 : Int) A B Y K T)))))
  refine ⟨by omega, by omega, fun z1 => ?_, fun z1 => ?_⟩
  · skip
    exact ⟨by omega, q _ (show ((0 : Int) = 1 ∧ 48 ≤ x ∧ x ≤ 57) ∨ (0 : Int) = 0 from by omega)⟩
  · skip
    refine ⟨by omega, by omega, fun z2 => ?_, fun z2 => ?_⟩
    · skip
      exact ⟨by omega, q _ (show ((0 : Int) = 1 ∧ 48 ≤ x ∧ x ≤ 57) ∨ (0 : Int) = 0 from by omega)⟩
    · skip
      exact ⟨by omega, q _ (show ((1 : Int) = 1 ∧ 48 ≤ x ∧ x ≤ 57) ∨ (1 : Int) = 0 from by omega)⟩

set_option maxRecDepth 10000 in
set_option maxHeartbeats 400000 in
theorem c_97 {d : Nat} {A B Y : zF} {K : Nat} {T : zT} {x : Int} {Q : Int → zF → zF → zF → Nat → zT → Prop} (hd : 1 ≤ d) (p1 : 0 ≤ x ∧ x < 65536) (q : ∀ (r : Int), (r = 0 ∨ r = 1) → Q r A B Y K T) : pzI d 97 [.inl x] (A, B, Y, K, T) Q := by
  refine pzI_of 21 [] [] ?_
  show ((-2147483648 ≤ x ∧ x < 2147483648) ∧ (-2147483648 ≤ (97 : Int) ∧ (97 : Int) < 2147483648) ∧ (x < (97 : Int) → ((-2147483648 ≤ x ∧ x < 2147483648) ∧ (-2147483648 ≤ (65 : Int) ∧ (65 : Int) < 2147483648) ∧ (x < (65 : Int) → ((-2147483648 ≤ x ∧ x < 2147483648) ∧ (-2147483648 ≤ (95 : Int) ∧ (95 : Int) < 2147483648) ∧ (x = (95 : Int) → (((1 : Int) = 0 ∨ (1 : Int) = 1) ∧ Q (1 : Int) A B Y K T)) ∧ (x ≠ (95 : Int) → (0 < d ∧ pzI (d - 1) 96 [.inl x] (A, B, Y, K, T) (fun nv1 Av1 Bv1 Yv1 Kv1 Tv1 => ((-2147483648 ≤ nv1 ∧ nv1 < 2147483648) ∧ (nv1 = (0 : Int) → (((0 : Int) = 0 ∨ (0 : Int) = 1) ∧ Q (0 : Int) Av1 Bv1 Yv1 Kv1 Tv1)) ∧ (nv1 ≠ (0 : Int) → (((1 : Int) = 0 ∨ (1 : Int) = 1) ∧ Q (1 : Int) Av1 Bv1 Yv1 Kv1 Tv1)))))))) ∧ ((65 : Int) ≤ x → ((-2147483648 ≤ x ∧ x < 2147483648) ∧ (-2147483648 ≤ (90 : Int) ∧ (90 : Int) < 2147483648) ∧ (x ≤ (90 : Int) → (((1 : Int) = 0 ∨ (1 : Int) = 1) ∧ Q (1 : Int) A B Y K T)) ∧ ((90 : Int) < x → ((-2147483648 ≤ x ∧ x < 2147483648) ∧ (-2147483648 ≤ (95 : Int) ∧ (95 : Int) < 2147483648) ∧ (x = (95 : Int) → (((1 : Int) = 0 ∨ (1 : Int) = 1) ∧ Q (1 : Int) A B Y K T)) ∧ (x ≠ (95 : Int) → (0 < d ∧ pzI (d - 1) 96 [.inl x] (A, B, Y, K, T) (fun nv2 Av2 Bv2 Yv2 Kv2 Tv2 => ((-2147483648 ≤ nv2 ∧ nv2 < 2147483648) ∧ (nv2 = (0 : Int) → (((0 : Int) = 0 ∨ (0 : Int) = 1) ∧ Q (0 : Int) Av2 Bv2 Yv2 Kv2 Tv2)) ∧ (nv2 ≠ (0 : Int) → (((1 : Int) = 0 ∨ (1 : Int) = 1) ∧ Q (1 : Int) Av2 Bv2 Yv2 Kv2 Tv2)))))))))))) ∧ ((97 : Int) ≤ x → ((-2147483648 ≤ x ∧ x < 2147483648) ∧ (-2147483648 ≤ (122 : Int) ∧ (122 : Int) < 2147483648) ∧ (x ≤ (122 : Int) → (((1 : Int) = 0 ∨ (1 : Int) = 1) ∧ Q (1 : Int) A B Y K T)) ∧ ((122 : Int) < x → ((-2147483648 ≤ x ∧ x < 2147483648) ∧ (-2147483648 ≤ (65 : Int) ∧ (65 : Int) < 2147483648) ∧ (x < (65 : Int) → ((-2147483648 ≤ x ∧ x < 2147483648) ∧ (-2147483648 ≤ (95 : Int) ∧ (95 : Int) < 2147483648) ∧ (x = (95 : Int) → (((1 : Int) = 0 ∨ (1 : Int) = 1) ∧ Q (1 : Int) A B Y K T)) ∧ (x ≠ (95 : Int) → (0 < d ∧ pzI (d - 1) 96 [.inl x] (A, B, Y, K, T) (fun nv3 Av3 Bv3 Yv3 Kv3 Tv3 => ((-2147483648 ≤ nv3 ∧ nv3 < 2147483648) ∧ (nv3 = (0 : Int) → (((0 : Int) = 0 ∨ (0 : Int) = 1) ∧ Q (0 : Int) Av3 Bv3 Yv3 Kv3 Tv3)) ∧ (nv3 ≠ (0 : Int) → (((1 : Int) = 0 ∨ (1 : Int) = 1) ∧ Q (1 : Int) Av3 Bv3 Yv3 Kv3 Tv3)))))))) ∧ ((65 : Int) ≤ x → ((-2147483648 ≤ x ∧ x < 2147483648) ∧ (-2147483648 ≤ (90 : Int) ∧ (90 : Int) < 2147483648) ∧ (x ≤ (90 : Int) → (((1 : Int) = 0 ∨ (1 : Int) = 1) ∧ Q (1 : Int) A B Y K T)) ∧ ((90 : Int) < x → ((-2147483648 ≤ x ∧ x < 2147483648) ∧ (-2147483648 ≤ (95 : Int) ∧ (95 : Int) < 2147483648) ∧ (x = (95 : Int) → (((1 : Int) = 0 ∨ (1 : Int) = 1) ∧ Q (1 : Int) A B Y K T)) ∧ (x ≠ (95 : Int) → (0 < d ∧ pzI (d - 1) 96 [.inl x] (A, B, Y, K, T) (fun nv4 Av4 Bv4 Yv4 Kv4 Tv4 => ((-2147483648 ≤ nv4 ∧ nv4 < 2147483648) ∧ (nv4 = (0 : Int) → (((0 : Int) = 0 ∨ (0 : Int) = 1) ∧ Q (0 : Int) Av4 Bv4 Yv4 Kv4 Tv4)) ∧ (nv4 ≠ (0 : Int) → (((1 : Int) = 0 ∨ (1 : Int) = 1) ∧ Q (1 : Int) Av4 Bv4 Yv4 Kv4 Tv4)))))))))))))))
  refine ⟨by omega, by omega, fun z1 => ?_, fun z1 => ?_⟩
  · skip
    refine ⟨by omega, by omega, fun z2 => ?_, fun z2 => ?_⟩
    · skip
      refine ⟨by omega, by omega, fun z3 => ?_, fun z3 => ?_⟩
      · skip
        exact ⟨by omega, q _ (show (1 : Int) = 0 ∨ (1 : Int) = 1 from by omega)⟩
      · skip
        refine ⟨by omega, c_96 (by omega) (show 0 ≤ x ∧ x < 65536 from by omega) (fun nv1 xp1_0 => ?_)⟩
        replace xp1_0 : (nv1 = 1 ∧ 48 ≤ x ∧ x ≤ 57) ∨ nv1 = 0 := xp1_0
        refine ⟨by omega, fun z4 => ?_, fun z4 => ?_⟩
        · skip
          exact ⟨by omega, q _ (show (0 : Int) = 0 ∨ (0 : Int) = 1 from by omega)⟩
        · skip
          exact ⟨by omega, q _ (show (1 : Int) = 0 ∨ (1 : Int) = 1 from by omega)⟩
    · skip
      refine ⟨by omega, by omega, fun z5 => ?_, fun z5 => ?_⟩
      · skip
        exact ⟨by omega, q _ (show (1 : Int) = 0 ∨ (1 : Int) = 1 from by omega)⟩
      · skip
        refine ⟨by omega, by omega, fun z6 => ?_, fun z6 => ?_⟩
        · skip
          exact ⟨by omega, q _ (show (1 : Int) = 0 ∨ (1 : Int) = 1 from by omega)⟩
        · skip
          refine ⟨by omega, c_96 (by omega) (show 0 ≤ x ∧ x < 65536 from by omega) (fun nv2 xp2_0 => ?_)⟩
          replace xp2_0 : (nv2 = 1 ∧ 48 ≤ x ∧ x ≤ 57) ∨ nv2 = 0 := xp2_0
          refine ⟨by omega, fun z7 => ?_, fun z7 => ?_⟩
          · skip
            exact ⟨by omega, q _ (show (0 : Int) = 0 ∨ (0 : Int) = 1 from by omega)⟩
          · skip
            exact ⟨by omega, q _ (show (1 : Int) = 0 ∨ (1 : Int) = 1 from by omega)⟩
  · skip
    refine ⟨by omega, by omega, fun z8 => ?_, fun z8 => ?_⟩
    · skip
      exact ⟨by omega, q _ (show (1 : Int) = 0 ∨ (1 : Int) = 1 from by omega)⟩
    · skip
      refine ⟨by omega, by omega, fun z9 => ?_, fun z9 => ?_⟩
      · skip
        refine ⟨by omega, by omega, fun z10 => ?_, fun z10 => ?_⟩
        · skip
          exact ⟨by omega, q _ (show (1 : Int) = 0 ∨ (1 : Int) = 1 from by omega)⟩
        · skip
          refine ⟨by omega, c_96 (by omega) (show 0 ≤ x ∧ x < 65536 from by omega) (fun nv3 xp3_0 => ?_)⟩
          replace xp3_0 : (nv3 = 1 ∧ 48 ≤ x ∧ x ≤ 57) ∨ nv3 = 0 := xp3_0
          refine ⟨by omega, fun z11 => ?_, fun z11 => ?_⟩
          · skip
            exact ⟨by omega, q _ (show (0 : Int) = 0 ∨ (0 : Int) = 1 from by omega)⟩
          · skip
            exact ⟨by omega, q _ (show (1 : Int) = 0 ∨ (1 : Int) = 1 from by omega)⟩
      · skip
        refine ⟨by omega, by omega, fun z12 => ?_, fun z12 => ?_⟩
        · skip
          exact ⟨by omega, q _ (show (1 : Int) = 0 ∨ (1 : Int) = 1 from by omega)⟩
        · skip
          refine ⟨by omega, by omega, fun z13 => ?_, fun z13 => ?_⟩
          · skip
            exact ⟨by omega, q _ (show (1 : Int) = 0 ∨ (1 : Int) = 1 from by omega)⟩
          · skip
            refine ⟨by omega, c_96 (by omega) (show 0 ≤ x ∧ x < 65536 from by omega) (fun nv4 xp4_0 => ?_)⟩
            replace xp4_0 : (nv4 = 1 ∧ 48 ≤ x ∧ x ≤ 57) ∨ nv4 = 0 := xp4_0
            refine ⟨by omega, fun z14 => ?_, fun z14 => ?_⟩
            · skip
              exact ⟨by omega, q _ (show (0 : Int) = 0 ∨ (0 : Int) = 1 from by omega)⟩
            · skip
              exact ⟨by omega, q _ (show (1 : Int) = 0 ∨ (1 : Int) = 1 from by omega)⟩

set_option maxRecDepth 10000 in
set_option maxHeartbeats 400000 in
theorem c_95_20 {m : Nat} {sz : Int} {d : Nat} {A B Y : zF} {K : Nat} {T : zT} {x : Int} {s : Nat} {Q : Int → zF → zF → zF → Nat → zT → Prop} (hd : 7 ≤ d) (hI : XI m sz A K T) (p1 : 0 ≤ x ∧ x ≤ 3000) (p2 : 3000 ≤ s ∧ s < 3039) (q : ∀ (r : Int), ((r = 1 ∧ x + slen s ≤ 3000) ∨ r = 0) → Q r A B Y K T) : pzI d 95 [.inr (.inr (20 : Nat)), .inl x, .inr (.inr s)] (A, B, Y, K, T) Q := by
  have L17 : ∀ (n : Nat) (k : Int), (0 ≤ k ∧ k ≤ 6) → (x + slen s ≤ 3000) → (7 - k) < (n : Int) → pq d 95 17 [some (.inr (.inr (20 : Nat))), some (.inl x), some (.inr (.inr s)), some (.inl k)] [] (A, B, Y, K, T) (qI Q) := by
    intro n
    induction n with
    | zero =>
      intro k i0 i1 hm
      exfalso
      omega
    | succ n ih =>
      intro k i0 i1 hm
      refine pq_of 16 [(17, [])] [] ?_
      show ((3000 ≤ s ∧ s < 3039) ∧ (0 < d ∧ pzI (d - 1) 163 [.inr (.inr s)] (A, B, Y, K, T) (fun nv101 Av101 Bv101 Yv101 Kv101 Tv101 => ((-2147483648 ≤ k ∧ k < 2147483648) ∧ (-2147483648 ≤ nv101 ∧ nv101 < 2147483648) ∧ (nv101 ≤ k → (((1 : Int) = 0 ∨ (1 : Int) = 1) ∧ Q (1 : Int) Av101 Bv101 Yv101 Kv101 Tv101)) ∧ (k < nv101 → ((0 ≤ (x + k) ∧ (x + k) < (3000 : Int)) ∧ ((3000 ≤ s ∧ s < 3039) ∧ (0 < d ∧ pzI (d - 1) 164 [.inr (.inr s), .inl k] (Av101, Bv101, Yv101, Kv101, Tv101) (fun nv102 Av102 Bv102 Yv102 Kv102 Tv102 => ((-2147483648 ≤ (Av101 3 ((x + k)).toNat) ∧ (Av101 3 ((x + k)).toNat) < 2147483648) ∧ (-2147483648 ≤ nv102 ∧ nv102 < 2147483648) ∧ ((Av101 3 ((x + k)).toNat) = nv102 → pq d 95 17 [some (.inr (.inr (20 : Nat))), some (.inl x), some (.inr (.inr s)), some (.inl (k + (1 : Int)))] [] (Av102, Bv102, Yv102, Kv102, Tv102) (qI Q)) ∧ ((Av101 3 ((x + k)).toNat) ≠ nv102 → (((0 : Int) = 0 ∨ (0 : Int) = 1) ∧ Q (0 : Int) Av102 Bv102 Yv102 Kv102 Tv102))))))))))))
      refine ⟨by omega, by omega, c_163 (by omega) (show 3000 ≤ s ∧ s < 3039 from by omega) (fun nv101 xp101_0 => ?_)⟩
      replace xp101_0 : nv101 = slen s ∧ 0 ≤ nv101 ∧ nv101 ≤ 6 := xp101_0
      refine ⟨by omega, by omega, fun z1 => ?_, fun z1 => ?_⟩
      · skip
        exact ⟨by omega, q _ (show ((1 : Int) = 1 ∧ x + slen s ≤ 3000) ∨ (1 : Int) = 0 from by omega)⟩
      · skip
        refine ⟨by omega, ?_⟩
        have f2 := XI_r_3 hI (((x + k)).toNat)
        refine ⟨by omega, by omega, c_164 (by omega) (show 3000 ≤ s ∧ s < 3039 from by omega) (show 0 ≤ k ∧ k < slen s from by omega) (fun nv102 xp102_0 => ?_)⟩
        replace xp102_0 : 0 ≤ nv102 ∧ nv102 < 65536 := xp102_0
        refine ⟨by omega, by omega, fun z3 => ?_, fun z3 => ?_⟩
        · skip
          exact ih ((k + (1 : Int))) (show 0 ≤ (k + (1 : Int)) ∧ (k + (1 : Int)) ≤ 6 from by omega) (show x + slen s ≤ 3000 from by omega) (by show 7 - (k + (1 : Int)) < _; omega)
        · skip
          exact ⟨by omega, q _ (show ((0 : Int) = 1 ∧ x + slen s ≤ 3000) ∨ (0 : Int) = 0 from by omega)⟩
  refine pzI_of 9 [(17, [])] [] ?_
  show ((3000 ≤ s ∧ s < 3039) ∧ (0 < d ∧ pzI (d - 1) 163 [.inr (.inr s)] (A, B, Y, K, T) (fun nv1 Av1 Bv1 Yv1 Kv1 Tv1 => ((-2147483648 ≤ (x + nv1) ∧ (x + nv1) < 2147483648) ∧ (-2147483648 ≤ (Av1 20 6) ∧ (Av1 20 6) < 2147483648) ∧ ((x + nv1) ≤ (Av1 20 6) → pq d 95 17 [some (.inr (.inr (20 : Nat))), some (.inl x), some (.inr (.inr s)), some (.inl (0 : Int))] [] (Av1, Bv1, Yv1, Kv1, Tv1) (qI Q)) ∧ ((Av1 20 6) < (x + nv1) → (((0 : Int) = 0 ∨ (0 : Int) = 1) ∧ Q (0 : Int) Av1 Bv1 Yv1 Kv1 Tv1))))))
  refine ⟨by omega, by omega, c_163 (by omega) (show 3000 ≤ s ∧ s < 3039 from by omega) (fun nv1 xp1_0 => ?_)⟩
  replace xp1_0 : nv1 = slen s ∧ 0 ≤ nv1 ∧ nv1 ≤ 6 := xp1_0
  have f1 := XI_r_20_6 hI
  refine ⟨by omega, by omega, fun z2 => ?_, fun z2 => ?_⟩
  · skip
    exact L17 ((7 - (0 : Int)) + 1).toNat ((0 : Int)) (show 0 ≤ (0 : Int) ∧ (0 : Int) ≤ 6 from by omega) (show x + slen s ≤ 3000 from by omega) (by show 7 - (0 : Int) < _; omega)
  · skip
    exact ⟨by omega, q _ (show ((0 : Int) = 1 ∧ x + slen s ≤ 3000) ∨ (0 : Int) = 0 from by omega)⟩

set_option maxRecDepth 10000 in
set_option maxHeartbeats 400000 in
theorem c_89_20 {sz : Int} {d : Nat} {A B Y : zF} {K : Nat} {T : zT} {kd : Nat} {x : Int} {Q : zF → zF → zF → Nat → zT → Prop} (hd : 0 ≤ d) (hI : XI 0 sz A K T) (p1 : 1000 ≤ kd ∧ kd < 1039) (p2 : 0 ≤ x ∧ x ≤ 3000) (q : ∀ (A' : zF) (K' : Nat) (T' : zT), XI 0 sz A' K' T' → Q A' B Y K' T') : pzV d 89 [.inr (.inr (20 : Nat)), .inr (.inr kd), .inl x] (A, B, Y, K, T) Q := by
  refine pzV_of 39 [] [] ?_
  show ((-2147483648 ≤ (A 20 4) ∧ (A 20 4) < 2147483648) ∧ (-2147483648 ≤ (3001 : Int) ∧ (3001 : Int) < 2147483648) ∧ ((3001 : Int) ≤ (A 20 4) → Q A B Y K T) ∧ ((A 20 4) < (3001 : Int) → ((0 ≤ (A 20 4) ∧ (A 20 4) < 3001) ∧ (1000 ≤ kd ∧ kd < 1039) ∧ ((0 ≤ (A 20 4) ∧ (A 20 4) < (3001 : Int)) ∧ ((0 ≤ (A 20 4) ∧ (A 20 4) < (3001 : Int)) ∧ ((0 ≤ (A 20 4) ∧ (A 20 4) < (3001 : Int)) ∧ Q (zu (zu (zu (zu A 22 ((A 20 4)).toNat x) 23 ((A 20 4)).toNat ((A 20 7) - x)) 24 ((A 20 4)).toNat (A 20 8)) 20 4 ((A 20 4) + (1 : Int))) B Y K (zut T ((A 20 4)).toNat kd)))))))
  have f1 := XI_r_20_4 hI
  refine ⟨by omega, by omega, fun z2 => ?_, fun z2 => ?_⟩
  · skip
    exact q _ _ _ hI 
  · skip
    refine ⟨by omega, by omega, ?_⟩
    refine ⟨by omega, ?_⟩
    have f3 := XI_r_20_7 hI
    refine ⟨by omega, ?_⟩
    have f4 := XI_r_20_8 hI
    refine ⟨by omega, ?_⟩
    have hI5 := XI_addT0 (p := x) (s := ((A 20 7) - x)) (u := (A 20 8)) (kd := kd) hI (by omega) p1 p2 (by omega) (by omega) (by omega)
    exact q _ _ _ hI5 

set_option maxRecDepth 10000 in
set_option maxHeartbeats 400000 in
theorem c_89b {sz : Int} {d : Nat} {A B Y : zF} {K : Nat} {T : zT} {kd : Nat} {x : Int} {Q : zF → zF → zF → Nat → zT → Prop} (hd : 0 ≤ d) (hI : XI 0 sz A K T) (p1 : 1000 ≤ kd ∧ kd < 1039) (p2 : 0 ≤ x ∧ x ≤ 3000) (q : ∀ (A' : zF) (K' : Nat) (T' : zT), XI 1 sz A' K' T' → Q A' B Y K' T') : pzV d 89 [.inr (.inr (20 : Nat)), .inr (.inr kd), .inl x] (A, B, Y, K, T) Q := by
  refine pzV_of 39 [] [] ?_
  show ((-2147483648 ≤ (A 20 4) ∧ (A 20 4) < 2147483648) ∧ (-2147483648 ≤ (3001 : Int) ∧ (3001 : Int) < 2147483648) ∧ ((3001 : Int) ≤ (A 20 4) → Q A B Y K T) ∧ ((A 20 4) < (3001 : Int) → ((0 ≤ (A 20 4) ∧ (A 20 4) < 3001) ∧ (1000 ≤ kd ∧ kd < 1039) ∧ ((0 ≤ (A 20 4) ∧ (A 20 4) < (3001 : Int)) ∧ ((0 ≤ (A 20 4) ∧ (A 20 4) < (3001 : Int)) ∧ ((0 ≤ (A 20 4) ∧ (A 20 4) < (3001 : Int)) ∧ Q (zu (zu (zu (zu A 22 ((A 20 4)).toNat x) 23 ((A 20 4)).toNat ((A 20 7) - x)) 24 ((A 20 4)).toNat (A 20 8)) 20 4 ((A 20 4) + (1 : Int))) B Y K (zut T ((A 20 4)).toNat kd)))))))
  have f1 := XI_r_20_4 hI
  refine ⟨by omega, by omega, fun z2 => ?_, fun z2 => ?_⟩
  · skip
    exact q _ _ _ (by first | exact XI_01 hI (by omega) | exact XI_01 hI (show 1 ≤ (A 20 4) + 1 from by omega))
  · skip
    refine ⟨by omega, by omega, ?_⟩
    refine ⟨by omega, ?_⟩
    have f3 := XI_r_20_7 hI
    refine ⟨by omega, ?_⟩
    have f4 := XI_r_20_8 hI
    refine ⟨by omega, ?_⟩
    have hI5 := XI_addT0 (p := x) (s := ((A 20 7) - x)) (u := (A 20 8)) (kd := kd) hI (by omega) p1 p2 (by omega) (by omega) (by omega)
    exact q _ _ _ (by first | exact XI_01 hI5 (by omega) | exact XI_01 hI5 (show 1 ≤ (A 20 4) + 1 from by omega))

set_option maxRecDepth 10000 in
set_option maxHeartbeats 400000 in
theorem c_90_20 {m : Nat} {sz : Int} {d : Nat} {A B Y : zF} {K : Nat} {T : zT}  {Q : zF → zF → zF → Nat → zT → Prop} (hd : 0 ≤ d) (hI : XI m sz A K T)  (q : ∀ (A' : zF) (K' : Nat) (T' : zT), XI m sz A' K' T' → Q A' B Y K' T') : pzV d 90 [.inr (.inr (20 : Nat))] (A, B, Y, K, T) Q := by
  have L2 : ∀ (n : Nat) (e : Int) (A2 : zF) (K2 : Nat) (T2 : zT), XI m sz A2 K2 T2 → (e = 0 ∨ e = 1) → (3001 - (A2 20 7)) < (n : Int) → pq d 90 2 [some (.inr (.inr (20 : Nat))), some (.inl e), none] [] (A2, B, Y, K2, T2) (qV Q) := by
    intro n
    induction n with
    | zero =>
      intro e A2 K2 T2 hI2 i0 hm
      have f0 := XI_r_20_7 hI2
      exfalso
      omega
    | succ n ih =>
      intro e A2 K2 T2 hI2 i0 hm
      refine pq_of 29 [(2, [2])] [] ?_
      show ((-2147483648 ≤ (A2 20 7) ∧ (A2 20 7) < 2147483648) ∧ (-2147483648 ≤ (A2 20 6) ∧ (A2 20 6) < 2147483648) ∧ ((A2 20 6) ≤ (A2 20 7) → Q A2 B Y K2 T2) ∧ ((A2 20 7) < (A2 20 6) → ((0 ≤ (A2 20 7) ∧ (A2 20 7) < (3000 : Int)) ∧ ((-2147483648 ≤ (A2 3 ((A2 20 7)).toNat) ∧ (A2 3 ((A2 20 7)).toNat) < 2147483648) ∧ (-2147483648 ≤ (35 : Int) ∧ (35 : Int) < 2147483648) ∧ ((A2 3 ((A2 20 7)).toNat) ≠ (35 : Int) → ((-2147483648 ≤ (A2 3 ((A2 20 7)).toNat) ∧ (A2 3 ((A2 20 7)).toNat) < 2147483648) ∧ (-2147483648 ≤ (10 : Int) ∧ (10 : Int) < 2147483648) ∧ ((A2 3 ((A2 20 7)).toNat) ≠ (10 : Int) → ((-2147483648 ≤ (A2 3 ((A2 20 7)).toNat) ∧ (A2 3 ((A2 20 7)).toNat) < 2147483648) ∧ (-2147483648 ≤ (32 : Int) ∧ (32 : Int) < 2147483648) ∧ ((A2 3 ((A2 20 7)).toNat) = (32 : Int) → pq d 90 2 [some (.inr (.inr (20 : Nat))), some (.inl e), none] [] ((zu A2 20 7 ((A2 20 7) + (1 : Int))), B, Y, K2, T2) (qV Q)) ∧ ((A2 3 ((A2 20 7)).toNat) ≠ (32 : Int) → ((-2147483648 ≤ e ∧ e < 2147483648) ∧ (e ≠ (0 : Int) → pq d 90 2 [some (.inr (.inr (20 : Nat))), some (.inl e), none] [] ((zu A2 20 7 ((A2 20 7) + (1 : Int))), B, Y, K2, T2) (qV Q)) ∧ (e = (0 : Int) → Q A2 B Y K2 T2))))) ∧ ((A2 3 ((A2 20 7)).toNat) = (10 : Int) → pq d 90 2 [some (.inr (.inr (20 : Nat))), some (.inl (0 : Int)), none] [] ((zu A2 20 7 ((A2 20 7) + (1 : Int))), B, Y, K2, T2) (qV Q)))) ∧ ((A2 3 ((A2 20 7)).toNat) = (35 : Int) → pq d 90 2 [some (.inr (.inr (20 : Nat))), some (.inl (1 : Int)), none] [] ((zu A2 20 7 ((A2 20 7) + (1 : Int))), B, Y, K2, T2) (qV Q))))))
      have f1 := XI_r_20_7 hI2
      have f2 := XI_r_20_6 hI2
      refine ⟨by omega, by omega, fun z3 => ?_, fun z3 => ?_⟩
      · skip
        exact q _ _ _ hI2 
      · skip
        refine ⟨by omega, ?_⟩
        have f4 := XI_r_3 hI2 (((A2 20 7)).toNat)
        refine ⟨by omega, by omega, fun z5 => ?_, fun z5 => ?_⟩
        · skip
          refine ⟨by omega, by omega, fun z6 => ?_, fun z6 => ?_⟩
          · skip
            refine ⟨by omega, by omega, fun z7 => ?_, fun z7 => ?_⟩
            · skip
              have hI8 := XI_w_20_7 (v := ((A2 20 7) + (1 : Int))) hI2 (by omega) (by omega)
              exact ih (e) _ _ _ hI8 (show e = 0 ∨ e = 1 from by omega) (by show 3001 - ((A2 20 7) + (1 : Int)) < _; omega)
            · skip
              refine ⟨by omega, fun z9 => ?_, fun z9 => ?_⟩
              · skip
                have hI10 := XI_w_20_7 (v := ((A2 20 7) + (1 : Int))) hI2 (by omega) (by omega)
                exact ih (e) _ _ _ hI10 (show e = 0 ∨ e = 1 from by omega) (by show 3001 - ((A2 20 7) + (1 : Int)) < _; omega)
              · skip
                exact q _ _ _ hI2 
          · skip
            have hI11 := XI_w_20_7 (v := ((A2 20 7) + (1 : Int))) hI2 (by omega) (by omega)
            exact ih ((0 : Int)) _ _ _ hI11 (show (0 : Int) = 0 ∨ (0 : Int) = 1 from by omega) (by show 3001 - ((A2 20 7) + (1 : Int)) < _; omega)
        · skip
          have hI12 := XI_w_20_7 (v := ((A2 20 7) + (1 : Int))) hI2 (by omega) (by omega)
          exact ih ((1 : Int)) _ _ _ hI12 (show (1 : Int) = 0 ∨ (1 : Int) = 1 from by omega) (by show 3001 - ((A2 20 7) + (1 : Int)) < _; omega)
  refine pzV_of 2 [(2, [2])] [] ?_
  show pq d 90 2 [some (.inr (.inr (20 : Nat))), some (.inl (0 : Int)), none] [] (A, B, Y, K, T) (qV Q)
  exact L2 ((3001 - (A 20 7)) + 1).toNat ((0 : Int)) _ _ _ hI (show (0 : Int) = 0 ∨ (0 : Int) = 1 from by omega) (by show 3001 - (A 20 7) < _; omega)

set_option maxRecDepth 10000 in
set_option maxHeartbeats 400000 in
theorem c_92_20 {m : Nat} {sz : Int} {d : Nat} {A B Y : zF} {K : Nat} {T : zT}  {Q : Nat → zF → zF → zF → Nat → zT → Prop} (hd : 2 ≤ d) (hI : XI m sz A K T)  (q : ∀ (r : Nat) (A' : zF) (K' : Nat) (T' : zT), XI m sz A' K' T' → (1000 ≤ r ∧ r < 1039) → Q r A' B Y K' T') : pzR d 92 [.inr (.inr (20 : Nat))] (A, B, Y, K, T) Q := by
  have L2 : ∀ (n : Nat) (e : Int) (A2 : zF) (K2 : Nat) (T2 : zT), XI m sz A2 K2 T2 → (0 ≤ e ∧ e ≤ 42949672969) → (3001 - (A2 20 7)) < (n : Int) → pq d 92 2 [some (.inr (.inr (20 : Nat))), some (.inr (.inl e)), none, none] [] (A2, B, Y, K2, T2) (qR Q) := by
    intro n
    induction n with
    | zero =>
      intro e A2 K2 T2 hI2 i0 hm
      have f0 := XI_r_20_7 hI2
      exfalso
      omega
    | succ n ih =>
      intro e A2 K2 T2 hI2 i0 hm
      refine pq_of 40 [(2, [])] [71] ?_
      show ((-2147483648 ≤ (A2 20 7) ∧ (A2 20 7) < 2147483648) ∧ (-2147483648 ≤ (A2 20 6) ∧ (A2 20 6) < 2147483648) ∧ ((A2 20 6) ≤ (A2 20 7) → (∀ cv101 : Int, -2147483648 ≤ cv101 → cv101 < 2147483648 → ((-2147483648 ≤ (A2 20 7) ∧ (A2 20 7) < 2147483648) ∧ (-2147483648 ≤ (A2 20 6) ∧ (A2 20 6) < 2147483648) ∧ ((A2 20 6) ≤ (A2 20 7) → ((-2147483648 ≤ (0 : Int) ∧ (0 : Int) < 2147483648) ∧ ((0 : Int) ≠ (0 : Int) → Q (1002 : Nat) (zu A2 20 8 cv101) B Y K2 T2) ∧ ((0 : Int) = (0 : Int) → ((-9223372036854775808 ≤ e ∧ e < 9223372036854775808) ∧ (-9223372036854775808 ≤ (4294967296 : Int) ∧ (4294967296 : Int) < 9223372036854775808) ∧ (e < (4294967296 : Int) → ((-2147483648 ≤ (-1 : Int) ∧ (-1 : Int) < 2147483648) ∧ ((-1 : Int) < (0 : Int) → Q (1001 : Nat) (zu A2 20 8 cv101) B Y K2 T2) ∧ ((0 : Int) ≤ (-1 : Int) → Q (1002 : Nat) (zu A2 20 8 cv101) B Y K2 T2))) ∧ (e = (4294967296 : Int) → ((-2147483648 ≤ (0 : Int) ∧ (0 : Int) < 2147483648) ∧ ((0 : Int) < (0 : Int) → Q (1001 : Nat) (zu A2 20 8 cv101) B Y K2 T2) ∧ ((0 : Int) ≤ (0 : Int) → Q (1002 : Nat) (zu A2 20 8 cv101) B Y K2 T2))) ∧ ((4294967296 : Int) < e → ((-2147483648 ≤ (1 : Int) ∧ (1 : Int) < 2147483648) ∧ ((1 : Int) < (0 : Int) → Q (1001 : Nat) (zu A2 20 8 cv101) B Y K2 T2) ∧ ((0 : Int) ≤ (1 : Int) → Q (1002 : Nat) (zu A2 20 8 cv101) B Y K2 T2))))))) ∧ ((A2 20 7) < (A2 20 6) → ((0 ≤ (A2 20 7) ∧ (A2 20 7) < (3000 : Int)) ∧ (0 < d ∧ pzI (d - 1) 97 [.inl (A2 3 ((A2 20 7)).toNat)] ((zu A2 20 8 cv101), B, Y, K2, T2) (fun nv102 Av102 Bv102 Yv102 Kv102 Tv102 => ((-2147483648 ≤ nv102 ∧ nv102 < 2147483648) ∧ (nv102 = (0 : Int) → ((-2147483648 ≤ (0 : Int) ∧ (0 : Int) < 2147483648) ∧ ((0 : Int) ≠ (0 : Int) → Q (1002 : Nat) Av102 Bv102 Yv102 Kv102 Tv102) ∧ ((0 : Int) = (0 : Int) → ((-9223372036854775808 ≤ e ∧ e < 9223372036854775808) ∧ (-9223372036854775808 ≤ (4294967296 : Int) ∧ (4294967296 : Int) < 9223372036854775808) ∧ (e < (4294967296 : Int) → ((-2147483648 ≤ (-1 : Int) ∧ (-1 : Int) < 2147483648) ∧ ((-1 : Int) < (0 : Int) → Q (1001 : Nat) Av102 Bv102 Yv102 Kv102 Tv102) ∧ ((0 : Int) ≤ (-1 : Int) → Q (1002 : Nat) Av102 Bv102 Yv102 Kv102 Tv102))) ∧ (e = (4294967296 : Int) → ((-2147483648 ≤ (0 : Int) ∧ (0 : Int) < 2147483648) ∧ ((0 : Int) < (0 : Int) → Q (1001 : Nat) Av102 Bv102 Yv102 Kv102 Tv102) ∧ ((0 : Int) ≤ (0 : Int) → Q (1002 : Nat) Av102 Bv102 Yv102 Kv102 Tv102))) ∧ ((4294967296 : Int) < e → ((-2147483648 ≤ (1 : Int) ∧ (1 : Int) < 2147483648) ∧ ((1 : Int) < (0 : Int) → Q (1001 : Nat) Av102 Bv102 Yv102 Kv102 Tv102) ∧ ((0 : Int) ≤ (1 : Int) → Q (1002 : Nat) Av102 Bv102 Yv102 Kv102 Tv102))))))) ∧ (nv102 ≠ (0 : Int) → ((-2147483648 ≤ (1 : Int) ∧ (1 : Int) < 2147483648) ∧ ((1 : Int) ≠ (0 : Int) → Q (1002 : Nat) Av102 Bv102 Yv102 Kv102 Tv102) ∧ ((1 : Int) = (0 : Int) → ((-9223372036854775808 ≤ e ∧ e < 9223372036854775808) ∧ (-9223372036854775808 ≤ (4294967296 : Int) ∧ (4294967296 : Int) < 9223372036854775808) ∧ (e < (4294967296 : Int) → ((-2147483648 ≤ (-1 : Int) ∧ (-1 : Int) < 2147483648) ∧ ((-1 : Int) < (0 : Int) → Q (1001 : Nat) Av102 Bv102 Yv102 Kv102 Tv102) ∧ ((0 : Int) ≤ (-1 : Int) → Q (1002 : Nat) Av102 Bv102 Yv102 Kv102 Tv102))) ∧ (e = (4294967296 : Int) → ((-2147483648 ≤ (0 : Int) ∧ (0 : Int) < 2147483648) ∧ ((0 : Int) < (0 : Int) → Q (1001 : Nat) Av102 Bv102 Yv102 Kv102 Tv102) ∧ ((0 : Int) ≤ (0 : Int) → Q (1002 : Nat) Av102 Bv102 Yv102 Kv102 Tv102))) ∧ ((4294967296 : Int) < e → ((-2147483648 ≤ (1 : Int) ∧ (1 : Int) < 2147483648) ∧ ((1 : Int) < (0 : Int) → Q (1001 : Nat) Av102 Bv102 Yv102 Kv102 Tv102) ∧ ((0 : Int) ≤ (1 : Int) → Q (1002 : Nat) Av102 Bv102 Yv102 Kv102 Tv102))))))))))))))) ∧ ((A2 20 7) < (A2 20 6) → ((0 ≤ (A2 20 7) ∧ (A2 20 7) < (3000 : Int)) ∧ (0 < d ∧ pzI (d - 1) 96 [.inl (A2 3 ((A2 20 7)).toNat)] (A2, B, Y, K2, T2) (fun nv103 Av103 Bv103 Yv103 Kv103 Tv103 => ((-2147483648 ≤ nv103 ∧ nv103 < 2147483648) ∧ (nv103 = (0 : Int) → (∀ cv104 : Int, -2147483648 ≤ cv104 → cv104 < 2147483648 → ((-2147483648 ≤ (Av103 20 7) ∧ (Av103 20 7) < 2147483648) ∧ (-2147483648 ≤ (Av103 20 6) ∧ (Av103 20 6) < 2147483648) ∧ ((Av103 20 6) ≤ (Av103 20 7) → ((-2147483648 ≤ (0 : Int) ∧ (0 : Int) < 2147483648) ∧ ((0 : Int) ≠ (0 : Int) → Q (1002 : Nat) (zu Av103 20 8 cv104) Bv103 Yv103 Kv103 Tv103) ∧ ((0 : Int) = (0 : Int) → ((-9223372036854775808 ≤ e ∧ e < 9223372036854775808) ∧ (-9223372036854775808 ≤ (4294967296 : Int) ∧ (4294967296 : Int) < 9223372036854775808) ∧ (e < (4294967296 : Int) → ((-2147483648 ≤ (-1 : Int) ∧ (-1 : Int) < 2147483648) ∧ ((-1 : Int) < (0 : Int) → Q (1001 : Nat) (zu Av103 20 8 cv104) Bv103 Yv103 Kv103 Tv103) ∧ ((0 : Int) ≤ (-1 : Int) → Q (1002 : Nat) (zu Av103 20 8 cv104) Bv103 Yv103 Kv103 Tv103))) ∧ (e = (4294967296 : Int) → ((-2147483648 ≤ (0 : Int) ∧ (0 : Int) < 2147483648) ∧ ((0 : Int) < (0 : Int) → Q (1001 : Nat) (zu Av103 20 8 cv104) Bv103 Yv103 Kv103 Tv103) ∧ ((0 : Int) ≤ (0 : Int) → Q (1002 : Nat) (zu Av103 20 8 cv104) Bv103 Yv103 Kv103 Tv103))) ∧ ((4294967296 : Int) < e → ((-2147483648 ≤ (1 : Int) ∧ (1 : Int) < 2147483648) ∧ ((1 : Int) < (0 : Int) → Q (1001 : Nat) (zu Av103 20 8 cv104) Bv103 Yv103 Kv103 Tv103) ∧ ((0 : Int) ≤ (1 : Int) → Q (1002 : Nat) (zu Av103 20 8 cv104) Bv103 Yv103 Kv103 Tv103))))))) ∧ ((Av103 20 7) < (Av103 20 6) → ((0 ≤ (Av103 20 7) ∧ (Av103 20 7) < (3000 : Int)) ∧ (0 < d ∧ pzI (d - 1) 97 [.inl (Av103 3 ((Av103 20 7)).toNat)] ((zu Av103 20 8 cv104), Bv103, Yv103, Kv103, Tv103) (fun nv105 Av105 Bv105 Yv105 Kv105 Tv105 => ((-2147483648 ≤ nv105 ∧ nv105 < 2147483648) ∧ (nv105 = (0 : Int) → ((-2147483648 ≤ (0 : Int) ∧ (0 : Int) < 2147483648) ∧ ((0 : Int) ≠ (0 : Int) → Q (1002 : Nat) Av105 Bv105 Yv105 Kv105 Tv105) ∧ ((0 : Int) = (0 : Int) → ((-9223372036854775808 ≤ e ∧ e < 9223372036854775808) ∧ (-9223372036854775808 ≤ (4294967296 : Int) ∧ (4294967296 : Int) < 9223372036854775808) ∧ (e < (4294967296 : Int) → ((-2147483648 ≤ (-1 : Int) ∧ (-1 : Int) < 2147483648) ∧ ((-1 : Int) < (0 : Int) → Q (1001 : Nat) Av105 Bv105 Yv105 Kv105 Tv105) ∧ ((0 : Int) ≤ (-1 : Int) → Q (1002 : Nat) Av105 Bv105 Yv105 Kv105 Tv105))) ∧ (e = (4294967296 : Int) → ((-2147483648 ≤ (0 : Int) ∧ (0 : Int) < 2147483648) ∧ ((0 : Int) < (0 : Int) → Q (1001 : Nat) Av105 Bv105 Yv105 Kv105 Tv105) ∧ ((0 : Int) ≤ (0 : Int) → Q (1002 : Nat) Av105 Bv105 Yv105 Kv105 Tv105))) ∧ ((4294967296 : Int) < e → ((-2147483648 ≤ (1 : Int) ∧ (1 : Int) < 2147483648) ∧ ((1 : Int) < (0 : Int) → Q (1001 : Nat) Av105 Bv105 Yv105 Kv105 Tv105) ∧ ((0 : Int) ≤ (1 : Int) → Q (1002 : Nat) Av105 Bv105 Yv105 Kv105 Tv105))))))) ∧ (nv105 ≠ (0 : Int) → ((-2147483648 ≤ (1 : Int) ∧ (1 : Int) < 2147483648) ∧ ((1 : Int) ≠ (0 : Int) → Q (1002 : Nat) Av105 Bv105 Yv105 Kv105 Tv105) ∧ ((1 : Int) = (0 : Int) → ((-9223372036854775808 ≤ e ∧ e < 9223372036854775808) ∧ (-9223372036854775808 ≤ (4294967296 : Int) ∧ (4294967296 : Int) < 9223372036854775808) ∧ (e < (4294967296 : Int) → ((-2147483648 ≤ (-1 : Int) ∧ (-1 : Int) < 2147483648) ∧ ((-1 : Int) < (0 : Int) → Q (1001 : Nat) Av105 Bv105 Yv105 Kv105 Tv105) ∧ ((0 : Int) ≤ (-1 : Int) → Q (1002 : Nat) Av105 Bv105 Yv105 Kv105 Tv105))) ∧ (e = (4294967296 : Int) → ((-2147483648 ≤ (0 : Int) ∧ (0 : Int) < 2147483648) ∧ ((0 : Int) < (0 : Int) → Q (1001 : Nat) Av105 Bv105 Yv105 Kv105 Tv105) ∧ ((0 : Int) ≤ (0 : Int) → Q (1002 : Nat) Av105 Bv105 Yv105 Kv105 Tv105))) ∧ ((4294967296 : Int) < e → ((-2147483648 ≤ (1 : Int) ∧ (1 : Int) < 2147483648) ∧ ((1 : Int) < (0 : Int) → Q (1001 : Nat) Av105 Bv105 Yv105 Kv105 Tv105) ∧ ((0 : Int) ≤ (1 : Int) → Q (1002 : Nat) Av105 Bv105 Yv105 Kv105 Tv105))))))))))))))) ∧ (nv103 ≠ (0 : Int) → ((-9223372036854775808 ≤ e ∧ e < 9223372036854775808) ∧ (-9223372036854775808 ≤ (4294967296 : Int) ∧ (4294967296 : Int) < 9223372036854775808) ∧ (e < (4294967296 : Int) → ((-2147483648 ≤ (-1 : Int) ∧ (-1 : Int) < 2147483648) ∧ ((0 : Int) ≤ (-1 : Int) → pq d 92 2 [some (.inr (.inr (20 : Nat))), some (.inr (.inl e)), none, none] [] ((zu Av103 20 7 ((Av103 20 7) + (1 : Int))), Bv103, Yv103, Kv103, Tv103) (qR Q)) ∧ ((-1 : Int) < (0 : Int) → ((0 ≤ (Av103 20 7) ∧ (Av103 20 7) < (3000 : Int)) ∧ ((-2147483648 ≤ ((Av103 3 ((Av103 20 7)).toNat) - (48 : Int)) ∧ ((Av103 3 ((Av103 20 7)).toNat) - (48 : Int)) < 2147483648) ∧ pq d 92 2 [some (.inr (.inr (20 : Nat))), some (.inr (.inl ((e * (10 : Int)) + ((Av103 3 ((Av103 20 7)).toNat) - (48 : Int))))), none, none] [] ((zu Av103 20 7 ((Av103 20 7) + (1 : Int))), Bv103, Yv103, Kv103, Tv103) (qR Q)))))) ∧ (e = (4294967296 : Int) → ((-2147483648 ≤ (0 : Int) ∧ (0 : Int) < 2147483648) ∧ ((0 : Int) ≤ (0 : Int) → pq d 92 2 [some (.inr (.inr (20 : Nat))), some (.inr (.inl e)), none, none] [] ((zu Av103 20 7 ((Av103 20 7) + (1 : Int))), Bv103, Yv103, Kv103, Tv103) (qR Q)) ∧ ((0 : Int) < (0 : Int) → ((0 ≤ (Av103 20 7) ∧ (Av103 20 7) < (3000 : Int)) ∧ ((-2147483648 ≤ ((Av103 3 ((Av103 20 7)).toNat) - (48 : Int)) ∧ ((Av103 3 ((Av103 20 7)).toNat) - (48 : Int)) < 2147483648) ∧ pq d 92 2 [some (.inr (.inr (20 : Nat))), some (.inr (.inl ((e * (10 : Int)) + ((Av103 3 ((Av103 20 7)).toNat) - (48 : Int))))), none, none] [] ((zu Av103 20 7 ((Av103 20 7) + (1 : Int))), Bv103, Yv103, Kv103, Tv103) (qR Q)))))) ∧ ((4294967296 : Int) < e → ((-2147483648 ≤ (1 : Int) ∧ (1 : Int) < 2147483648) ∧ ((0 : Int) ≤ (1 : Int) → pq d 92 2 [some (.inr (.inr (20 : Nat))), some (.inr (.inl e)), none, none] [] ((zu Av103 20 7 ((Av103 20 7) + (1 : Int))), Bv103, Yv103, Kv103, Tv103) (qR Q)) ∧ ((1 : Int) < (0 : Int) → ((0 ≤ (Av103 20 7) ∧ (Av103 20 7) < (3000 : Int)) ∧ ((-2147483648 ≤ ((Av103 3 ((Av103 20 7)).toNat) - (48 : Int)) ∧ ((Av103 3 ((Av103 20 7)).toNat) - (48 : Int)) < 2147483648) ∧ pq d 92 2 [some (.inr (.inr (20 : Nat))), some (.inr (.inl ((e * (10 : Int)) + ((Av103 3 ((Av103 20 7)).toNat) - (48 : Int))))), none, none] [] ((zu Av103 20 7 ((Av103 20 7) + (1 : Int))), Bv103, Yv103, Kv103, Tv103) (qR Q))))))))))))))
      have f1 := XI_r_20_7 hI2
      have f2 := XI_r_20_6 hI2
      refine ⟨by omega, by omega, fun z3 => ?_, fun z3 => ?_⟩
      · skip
        intro cv101 w4a w4b
        have hI5 := XI_w_20_8 (v := cv101) hI2 (by omega) (by omega)
        refine ⟨by omega, by omega, fun z6 => ?_, fun z6 => ?_⟩
        · skip
          refine ⟨by omega, fun z7 => ?_, fun z7 => ?_⟩
          · skip
            exact absurd z7 (by decide)
          · skip
            refine ⟨by omega, by omega, fun z8 => ?_, fun z8 => ?_, fun z8 => ?_⟩
            · skip
              refine ⟨by omega, fun z9 => ?_, fun z9 => ?_⟩
              · skip
                exact q _ _ _ _ hI5 (show 1000 ≤ (1001 : Nat) ∧ (1001 : Nat) < 1039 from by omega)
              · skip
                exact absurd z9 (by decide)
            · skip
              refine ⟨by omega, fun z10 => ?_, fun z10 => ?_⟩
              · skip
                exact absurd z10 (by decide)
              · skip
                exact q _ _ _ _ hI5 (show 1000 ≤ (1002 : Nat) ∧ (1002 : Nat) < 1039 from by omega)
            · skip
              refine ⟨by omega, fun z11 => ?_, fun z11 => ?_⟩
              · skip
                exact absurd z11 (by decide)
              · skip
                exact q _ _ _ _ hI5 (show 1000 ≤ (1002 : Nat) ∧ (1002 : Nat) < 1039 from by omega)
        · skip
          refine ⟨by omega, ?_⟩
          have f12 := XI_r_3 hI2 (((A2 20 7)).toNat)
          refine ⟨by omega, c_97 (by omega) (show 0 ≤ (A2 3 ((A2 20 7)).toNat) ∧ (A2 3 ((A2 20 7)).toNat) < 65536 from by omega) (fun nv102 xp102_0 => ?_)⟩
          replace xp102_0 : nv102 = 0 ∨ nv102 = 1 := xp102_0
          refine ⟨by omega, fun z13 => ?_, fun z13 => ?_⟩
          · skip
            refine ⟨by omega, fun z14 => ?_, fun z14 => ?_⟩
            · skip
              exact absurd z14 (by decide)
            · skip
              refine ⟨by omega, by omega, fun z15 => ?_, fun z15 => ?_, fun z15 => ?_⟩
              · skip
                refine ⟨by omega, fun z16 => ?_, fun z16 => ?_⟩
                · skip
                  exact q _ _ _ _ hI5 (show 1000 ≤ (1001 : Nat) ∧ (1001 : Nat) < 1039 from by omega)
                · skip
                  exact absurd z16 (by decide)
              · skip
                refine ⟨by omega, fun z17 => ?_, fun z17 => ?_⟩
                · skip
                  exact absurd z17 (by decide)
                · skip
                  exact q _ _ _ _ hI5 (show 1000 ≤ (1002 : Nat) ∧ (1002 : Nat) < 1039 from by omega)
              · skip
                refine ⟨by omega, fun z18 => ?_, fun z18 => ?_⟩
                · skip
                  exact absurd z18 (by decide)
                · skip
                  exact q _ _ _ _ hI5 (show 1000 ≤ (1002 : Nat) ∧ (1002 : Nat) < 1039 from by omega)
          · skip
            refine ⟨by omega, fun z19 => ?_, fun z19 => ?_⟩
            · skip
              exact q _ _ _ _ hI5 (show 1000 ≤ (1002 : Nat) ∧ (1002 : Nat) < 1039 from by omega)
            · skip
              exact absurd z19 (by decide)
      · skip
        refine ⟨by omega, ?_⟩
        have f24 := XI_r_3 hI2 (((A2 20 7)).toNat)
        refine ⟨by omega, c_96 (by omega) (show 0 ≤ (A2 3 ((A2 20 7)).toNat) ∧ (A2 3 ((A2 20 7)).toNat) < 65536 from by omega) (fun nv103 xp103_0 => ?_)⟩
        replace xp103_0 : (nv103 = 1 ∧ 48 ≤ (A2 3 ((A2 20 7)).toNat) ∧ (A2 3 ((A2 20 7)).toNat) ≤ 57) ∨ nv103 = 0 := xp103_0
        refine ⟨by omega, fun z25 => ?_, fun z25 => ?_⟩
        · skip
          intro cv104 w26a w26b
          have hI27 := XI_w_20_8 (v := cv104) hI2 (by omega) (by omega)
          refine ⟨by omega, by omega, fun z28 => ?_, fun z28 => ?_⟩
          · skip
            refine ⟨by omega, fun z29 => ?_, fun z29 => ?_⟩
            · skip
              exact absurd z29 (by decide)
            · skip
              refine ⟨by omega, by omega, fun z30 => ?_, fun z30 => ?_, fun z30 => ?_⟩
              · skip
                refine ⟨by omega, fun z31 => ?_, fun z31 => ?_⟩
                · skip
                  exact q _ _ _ _ hI27 (show 1000 ≤ (1001 : Nat) ∧ (1001 : Nat) < 1039 from by omega)
                · skip
                  exact absurd z31 (by decide)
              · skip
                refine ⟨by omega, fun z32 => ?_, fun z32 => ?_⟩
                · skip
                  exact absurd z32 (by decide)
                · skip
                  exact q _ _ _ _ hI27 (show 1000 ≤ (1002 : Nat) ∧ (1002 : Nat) < 1039 from by omega)
              · skip
                refine ⟨by omega, fun z33 => ?_, fun z33 => ?_⟩
                · skip
                  exact absurd z33 (by decide)
                · skip
                  exact q _ _ _ _ hI27 (show 1000 ≤ (1002 : Nat) ∧ (1002 : Nat) < 1039 from by omega)
          · skip
            refine ⟨by omega, ?_⟩
            have f34 := XI_r_3 hI2 (((A2 20 7)).toNat)
            refine ⟨by omega, c_97 (by omega) (show 0 ≤ (A2 3 ((A2 20 7)).toNat) ∧ (A2 3 ((A2 20 7)).toNat) < 65536 from by omega) (fun nv105 xp105_0 => ?_)⟩
            replace xp105_0 : nv105 = 0 ∨ nv105 = 1 := xp105_0
            refine ⟨by omega, fun z35 => ?_, fun z35 => ?_⟩
            · skip
              refine ⟨by omega, fun z36 => ?_, fun z36 => ?_⟩
              · skip
                exact absurd z36 (by decide)
              · skip
                refine ⟨by omega, by omega, fun z37 => ?_, fun z37 => ?_, fun z37 => ?_⟩
                · skip
                  refine ⟨by omega, fun z38 => ?_, fun z38 => ?_⟩
                  · skip
                    exact q _ _ _ _ hI27 (show 1000 ≤ (1001 : Nat) ∧ (1001 : Nat) < 1039 from by omega)
                  · skip
                    exact absurd z38 (by decide)
                · skip
                  refine ⟨by omega, fun z39 => ?_, fun z39 => ?_⟩
                  · skip
                    exact absurd z39 (by decide)
                  · skip
                    exact q _ _ _ _ hI27 (show 1000 ≤ (1002 : Nat) ∧ (1002 : Nat) < 1039 from by omega)
                · skip
                  refine ⟨by omega, fun z40 => ?_, fun z40 => ?_⟩
                  · skip
                    exact absurd z40 (by decide)
                  · skip
                    exact q _ _ _ _ hI27 (show 1000 ≤ (1002 : Nat) ∧ (1002 : Nat) < 1039 from by omega)
            · skip
              refine ⟨by omega, fun z41 => ?_, fun z41 => ?_⟩
              · skip
                exact q _ _ _ _ hI27 (show 1000 ≤ (1002 : Nat) ∧ (1002 : Nat) < 1039 from by omega)
              · skip
                exact absurd z41 (by decide)
        · skip
          refine ⟨by omega, by omega, fun z46 => ?_, fun z46 => ?_, fun z46 => ?_⟩
          · skip
            refine ⟨by omega, fun z47 => ?_, fun z47 => ?_⟩
            · skip
              exact absurd z47 (by decide)
            · skip
              refine ⟨by omega, ?_⟩
              have f49 := XI_r_3 hI2 (((A2 20 7)).toNat)
              refine ⟨by omega, ?_⟩
              have hI50 := XI_w_20_7 (v := ((A2 20 7) + (1 : Int))) hI2 (by omega) (by omega)
              exact ih (((e * (10 : Int)) + ((A2 3 ((A2 20 7)).toNat) - (48 : Int)))) _ _ _ hI50 (show 0 ≤ ((e * (10 : Int)) + ((A2 3 ((A2 20 7)).toNat) - (48 : Int))) ∧ ((e * (10 : Int)) + ((A2 3 ((A2 20 7)).toNat) - (48 : Int))) ≤ 42949672969 from by omega) (by show 3001 - ((A2 20 7) + (1 : Int)) < _; omega)
          · skip
            refine ⟨by omega, fun z51 => ?_, fun z51 => ?_⟩
            · skip
              have hI52 := XI_w_20_7 (v := ((A2 20 7) + (1 : Int))) hI2 (by omega) (by omega)
              exact ih (e) _ _ _ hI52 (show 0 ≤ e ∧ e ≤ 42949672969 from by omega) (by show 3001 - ((A2 20 7) + (1 : Int)) < _; omega)
            · skip
              exact absurd z51 (by decide)
          · skip
            refine ⟨by omega, fun z55 => ?_, fun z55 => ?_⟩
            · skip
              have hI56 := XI_w_20_7 (v := ((A2 20 7) + (1 : Int))) hI2 (by omega) (by omega)
              exact ih (e) _ _ _ hI56 (show 0 ≤ e ∧ e ≤ 42949672969 from by omega) (by show 3001 - ((A2 20 7) + (1 : Int)) < _; omega)
            · skip
              exact absurd z55 (by decide)
  refine pzR_of 2 [(2, [])] [71] ?_
  show pq d 92 2 [some (.inr (.inr (20 : Nat))), some (.inr (.inl (0 : Int))), none, none] [] (A, B, Y, K, T) (qR Q)
  exact L2 ((3001 - (A 20 7)) + 1).toNat ((0 : Int)) _ _ _ hI (show 0 ≤ (0 : Int) ∧ (0 : Int) ≤ 42949672969 from by omega) (by show 3001 - (A 20 7) < _; omega)

set_option maxRecDepth 10000 in
set_option maxHeartbeats 400000 in
theorem c_93_20 {m : Nat} {sz : Int} {d : Nat} {A B Y : zF} {K : Nat} {T : zT}  {Q : Nat → zF → zF → zF → Nat → zT → Prop} (hd : 8 ≤ d) (hI : XI m sz A K T)  (q : ∀ (r : Nat) (A' : zF) (K' : Nat) (T' : zT), XI m sz A' K' T' → (1000 ≤ r ∧ r < 1039) → Q r A' B Y K' T') : pzR d 93 [.inr (.inr (20 : Nat))] (A, B, Y, K, T) Q := by
  have L62 : ∀ (n : Nat) (e : Int) (y : Int) (k : Int) (A2 : zF) (K2 : Nat) (T2 : zT), XI m sz A2 K2 T2 → (0 ≤ e ∧ e ≤ 3000) → (-3000 ≤ y ∧ y ≤ 3000) → (0 ≤ k ∧ k ≤ 39) → (40 - k) < (n : Int) → pq d 93 62 [some (.inr (.inr (20 : Nat))), some (.inl e), some (.inl y), some (.inr (.inr (2000 : Nat))), some (.inl (39 : Int)), some (.inl k), none] [] (A2, B, Y, K2, T2) (qR Q) := by
    intro n
    induction n with
    | zero =>
      intro e y k A2 K2 T2 hI2 i0 i1 i2 hm
      exfalso
      omega
    | succ n ih =>
      intro e y k A2 K2 T2 hI2 i0 i1 i2 hm
      refine pq_of 20 [(5, []), (62, [6])] [] ?_
      show ((-2147483648 ≤ k ∧ k < 2147483648) ∧ (-2147483648 ≤ (39 : Int) ∧ (39 : Int) < 2147483648) ∧ ((39 : Int) ≤ k → ((-2147483648 ≤ y ∧ y < 2147483648) ∧ (-2147483648 ≤ (15 : Int) ∧ (15 : Int) < 2147483648) ∧ (y ≤ (15 : Int) → Q (1000 : Nat) A2 B Y K2 T2) ∧ ((15 : Int) < y → Q (1002 : Nat) A2 B Y K2 T2))) ∧ (k < (39 : Int) → ((0 ≤ k ∧ k < 39) ∧ ((1000 ≤ (1000 + (k).toNat) ∧ (1000 + (k).toNat) < 1039) ∧ ((3000 ≤ ((1000 + (k).toNat) + 2000) ∧ ((1000 + (k).toNat) + 2000) < 3039) ∧ (0 < d ∧ pzI (d - 1) 163 [.inr (.inr ((1000 + (k).toNat) + 2000))] (A2, B, Y, K2, T2) (fun nv201 Av201 Bv201 Yv201 Kv201 Tv201 => ((-2147483648 ≤ nv201 ∧ nv201 < 2147483648) ∧ (-2147483648 ≤ y ∧ y < 2147483648) ∧ (nv201 ≠ y → pq d 93 62 [some (.inr (.inr (20 : Nat))), some (.inl e), some (.inl y), some (.inr (.inr (2000 : Nat))), some (.inl (39 : Int)), some (.inl (k + (1 : Int))), none] [] (Av201, Bv201, Yv201, Kv201, Tv201) (qR Q)) ∧ (nv201 = y → ((1000 ≤ (1000 + (k).toNat) ∧ (1000 + (k).toNat) < 1039) ∧ (0 < d ∧ pzI (d - 1) 95 [.inr (.inr (20 : Nat)), .inl e, .inr (.inr ((1000 + (k).toNat) + 2000))] (Av201, Bv201, Yv201, Kv201, Tv201) (fun nv202 Av202 Bv202 Yv202 Kv202 Tv202 => ((-2147483648 ≤ nv202 ∧ nv202 < 2147483648) ∧ (nv202 = (0 : Int) → pq d 93 62 [some (.inr (.inr (20 : Nat))), some (.inl e), some (.inl y), some (.inr (.inr (2000 : Nat))), some (.inl (39 : Int)), some (.inl (k + (1 : Int))), none] [] (Av202, Bv202, Yv202, Kv202, Tv202) (qR Q)) ∧ (nv202 ≠ (0 : Int) → Q (1000 + (k).toNat) Av202 Bv202 Yv202 Kv202 Tv202))))))))))))))
      refine ⟨by omega, by omega, fun z1 => ?_, fun z1 => ?_⟩
      · skip
        refine ⟨by omega, by omega, fun z2 => ?_, fun z2 => ?_⟩
        · skip
          exact q _ _ _ _ hI2 (show 1000 ≤ (1000 : Nat) ∧ (1000 : Nat) < 1039 from by omega)
        · skip
          exact q _ _ _ _ hI2 (show 1000 ≤ (1002 : Nat) ∧ (1002 : Nat) < 1039 from by omega)
      · skip
        refine ⟨by omega, ?_⟩
        refine ⟨by omega, ?_⟩
        refine ⟨by omega, by omega, c_163 (by omega) (show 3000 ≤ ((1000 + (k).toNat) + 2000) ∧ ((1000 + (k).toNat) + 2000) < 3039 from by omega) (fun nv201 xp201_0 => ?_)⟩
        replace xp201_0 : nv201 = slen ((1000 + (k).toNat) + 2000) ∧ 0 ≤ nv201 ∧ nv201 ≤ 6 := xp201_0
        refine ⟨by omega, by omega, fun z5 => ?_, fun z5 => ?_⟩
        · skip
          exact ih (e) (y) ((k + (1 : Int))) _ _ _ hI2 (show 0 ≤ e ∧ e ≤ 3000 from by omega) (show -3000 ≤ y ∧ y ≤ 3000 from by omega) (show 0 ≤ (k + (1 : Int)) ∧ (k + (1 : Int)) ≤ 39 from by omega) (by show 40 - (k + (1 : Int)) < _; omega)
        · skip
          refine ⟨by omega, ?_⟩
          refine ⟨by omega, c_95_20 (by omega) hI2 (show 0 ≤ e ∧ e ≤ 3000 from by omega) (show 3000 ≤ ((1000 + (k).toNat) + 2000) ∧ ((1000 + (k).toNat) + 2000) < 3039 from by omega) (fun nv202 xp202_0 => ?_)⟩
          replace xp202_0 : (nv202 = 1 ∧ e + slen ((1000 + (k).toNat) + 2000) ≤ 3000) ∨ nv202 = 0 := xp202_0
          refine ⟨by omega, fun z8 => ?_, fun z8 => ?_⟩
          · skip
            exact ih (e) (y) ((k + (1 : Int))) _ _ _ hI2 (show 0 ≤ e ∧ e ≤ 3000 from by omega) (show -3000 ≤ y ∧ y ≤ 3000 from by omega) (show 0 ≤ (k + (1 : Int)) ∧ (k + (1 : Int)) ≤ 39 from by omega) (by show 40 - (k + (1 : Int)) < _; omega)
          · skip
            exact q _ _ _ _ hI2 (show 1000 ≤ (1000 + (k).toNat) ∧ (1000 + (k).toNat) < 1039 from by omega)
  have L5 : ∀ (n : Nat) (e : Int) (A2 : zF) (K2 : Nat) (T2 : zT), XI m sz A2 K2 T2 → (0 ≤ e ∧ e ≤ 3000) → (3001 - (A2 20 7)) < (n : Int) → pq d 93 5 [some (.inr (.inr (20 : Nat))), some (.inl e), none, none, none, none, none] [] (A2, B, Y, K2, T2) (qR Q) := by
    intro n
    induction n with
    | zero =>
      intro e A2 K2 T2 hI2 i0 hm
      have f0 := XI_r_20_7 hI2
      exfalso
      omega
    | succ n ih =>
      intro e A2 K2 T2 hI2 i0 hm
      refine pq_of 24 [(5, []), (62, [6])] [] ?_
      show ((-2147483648 ≤ (A2 20 7) ∧ (A2 20 7) < 2147483648) ∧ (-2147483648 ≤ (A2 20 6) ∧ (A2 20 6) < 2147483648) ∧ ((A2 20 6) ≤ (A2 20 7) → pq d 93 62 [some (.inr (.inr (20 : Nat))), some (.inl e), some (.inl ((A2 20 7) - e)), some (.inr (.inr (2000 : Nat))), some (.inl (39 : Int)), some (.inl (0 : Int)), none] [] (A2, B, Y, K2, T2) (qR Q)) ∧ ((A2 20 7) < (A2 20 6) → ((0 ≤ (A2 20 7) ∧ (A2 20 7) < (3000 : Int)) ∧ (0 < d ∧ pzI (d - 1) 97 [.inl (A2 3 ((A2 20 7)).toNat)] (A2, B, Y, K2, T2) (fun nv101 Av101 Bv101 Yv101 Kv101 Tv101 => ((-2147483648 ≤ nv101 ∧ nv101 < 2147483648) ∧ (nv101 = (0 : Int) → pq d 93 62 [some (.inr (.inr (20 : Nat))), some (.inl e), some (.inl ((Av101 20 7) - e)), some (.inr (.inr (2000 : Nat))), some (.inl (39 : Int)), some (.inl (0 : Int)), none] [] (Av101, Bv101, Yv101, Kv101, Tv101) (qR Q)) ∧ (nv101 ≠ (0 : Int) → pq d 93 5 [some (.inr (.inr (20 : Nat))), some (.inl e), none, none, none, none, none] [] ((zu Av101 20 7 ((Av101 20 7) + (1 : Int))), Bv101, Yv101, Kv101, Tv101) (qR Q))))))))
      have f1 := XI_r_20_7 hI2
      have f2 := XI_r_20_6 hI2
      refine ⟨by omega, by omega, fun z3 => ?_, fun z3 => ?_⟩
      · skip
        exact L62 ((40 - (0 : Int)) + 1).toNat (e) (((A2 20 7) - e)) ((0 : Int)) _ _ _ hI2 (show 0 ≤ e ∧ e ≤ 3000 from by omega) (show -3000 ≤ ((A2 20 7) - e) ∧ ((A2 20 7) - e) ≤ 3000 from by omega) (show 0 ≤ (0 : Int) ∧ (0 : Int) ≤ 39 from by omega) (by show 40 - (0 : Int) < _; omega)
      · skip
        refine ⟨by omega, ?_⟩
        have f4 := XI_r_3 hI2 (((A2 20 7)).toNat)
        refine ⟨by omega, c_97 (by omega) (show 0 ≤ (A2 3 ((A2 20 7)).toNat) ∧ (A2 3 ((A2 20 7)).toNat) < 65536 from by omega) (fun nv101 xp101_0 => ?_)⟩
        replace xp101_0 : nv101 = 0 ∨ nv101 = 1 := xp101_0
        refine ⟨by omega, fun z5 => ?_, fun z5 => ?_⟩
        · skip
          exact L62 ((40 - (0 : Int)) + 1).toNat (e) (((A2 20 7) - e)) ((0 : Int)) _ _ _ hI2 (show 0 ≤ e ∧ e ≤ 3000 from by omega) (show -3000 ≤ ((A2 20 7) - e) ∧ ((A2 20 7) - e) ≤ 3000 from by omega) (show 0 ≤ (0 : Int) ∧ (0 : Int) ≤ 39 from by omega) (by show 40 - (0 : Int) < _; omega)
        · skip
          have hI6 := XI_w_20_7 (v := ((A2 20 7) + (1 : Int))) hI2 (by omega) (by omega)
          exact ih (e) _ _ _ hI6 (show 0 ≤ e ∧ e ≤ 3000 from by omega) (by show 3001 - ((A2 20 7) + (1 : Int)) < _; omega)
  refine pzR_of 3 [(5, []), (62, [6])] [] ?_
  show pq d 93 5 [some (.inr (.inr (20 : Nat))), some (.inl (A 20 7)), none, none, none, none, none] [] (A, B, Y, K, T) (qR Q)
  have f1 := XI_r_20_7 hI
  exact L5 ((3001 - (A 20 7)) + 1).toNat ((A 20 7)) _ _ _ hI (show 0 ≤ (A 20 7) ∧ (A 20 7) ≤ 3000 from by omega) (by show 3001 - (A 20 7) < _; omega)

set_option maxRecDepth 10000 in
set_option maxHeartbeats 400000 in
theorem c_94_20 {m : Nat} {sz : Int} {d : Nat} {A B Y : zF} {K : Nat} {T : zT}  {Q : Nat → zF → zF → zF → Nat → zT → Prop} (hd : 8 ≤ d) (hI : XI m sz A K T)  (q : ∀ (r : Nat) (A' : zF) (K' : Nat) (T' : zT), XI m sz A' K' T' → (1000 ≤ r ∧ r < 1039) → Q r A' B Y K' T') : pzR d 94 [.inr (.inr (20 : Nat))] (A, B, Y, K, T) Q := by
  have L14 : ∀ (n : Nat) (e : Nat) (k : Int) (A2 : zF) (K2 : Nat) (T2 : zT), XI m sz A2 K2 T2 → (1000 ≤ e ∧ e < 1039) → (0 ≤ k ∧ k ≤ 39) → ((A2 20 7) + slen (e + 2000) ≤ 3000) → (40 - k) < (n : Int) → pq d 94 14 [some (.inr (.inr (20 : Nat))), some (.inr (.inr e)), some (.inr (.inr (2000 : Nat))), some (.inl (39 : Int)), some (.inl k), none, none] [] (A2, B, Y, K2, T2) (qR Q) := by
    intro n
    induction n with
    | zero =>
      intro e k A2 K2 T2 hI2 i0 i1 i2 hm
      exfalso
      omega
    | succ n ih =>
      intro e k A2 K2 T2 hI2 i0 i1 i2 hm
      refine pq_of 30 [(14, [5, 6])] [] ?_
      show ((-2147483648 ≤ k ∧ k < 2147483648) ∧ (-2147483648 ≤ (39 : Int) ∧ (39 : Int) < 2147483648) ∧ ((39 : Int) ≤ k → ((1000 ≤ e ∧ e < 1039) ∧ ((3000 ≤ (e + 2000) ∧ (e + 2000) < 3039) ∧ (0 < d ∧ pzI (d - 1) 163 [.inr (.inr (e + 2000))] (A2, B, Y, K2, T2) (fun nv101 Av101 Bv101 Yv101 Kv101 Tv101 => Q e (zu Av101 20 7 ((A2 20 7) + nv101)) Bv101 Yv101 Kv101 Tv101))))) ∧ (k < (39 : Int) → ((0 ≤ k ∧ k < 39) ∧ ((1000 ≤ (1000 + (k).toNat) ∧ (1000 + (k).toNat) < 1039) ∧ ((3000 ≤ ((1000 + (k).toNat) + 2000) ∧ ((1000 + (k).toNat) + 2000) < 3039) ∧ (0 < d ∧ pzI (d - 1) 163 [.inr (.inr ((1000 + (k).toNat) + 2000))] (A2, B, Y, K2, T2) (fun nv102 Av102 Bv102 Yv102 Kv102 Tv102 => ((1000 ≤ e ∧ e < 1039) ∧ ((3000 ≤ (e + 2000) ∧ (e + 2000) < 3039) ∧ (0 < d ∧ pzI (d - 1) 163 [.inr (.inr (e + 2000))] (Av102, Bv102, Yv102, Kv102, Tv102) (fun nv103 Av103 Bv103 Yv103 Kv103 Tv103 => ((-2147483648 ≤ nv102 ∧ nv102 < 2147483648) ∧ (-2147483648 ≤ nv103 ∧ nv103 < 2147483648) ∧ (nv102 ≤ nv103 → ((-2147483648 ≤ (0 : Int) ∧ (0 : Int) < 2147483648) ∧ ((0 : Int) = (0 : Int) → pq d 94 14 [some (.inr (.inr (20 : Nat))), some (.inr (.inr e)), some (.inr (.inr (2000 : Nat))), some (.inl (39 : Int)), some (.inl (k + (1 : Int))), none, none] [] (Av103, Bv103, Yv103, Kv103, Tv103) (qR Q)) ∧ ((0 : Int) ≠ (0 : Int) → ((1000 ≤ (1000 + (k).toNat) ∧ (1000 + (k).toNat) < 1039) ∧ (0 < d ∧ pzI (d - 1) 95 [.inr (.inr (20 : Nat)), .inl (Av103 20 7), .inr (.inr ((1000 + (k).toNat) + 2000))] (Av103, Bv103, Yv103, Kv103, Tv103) (fun nv104 Av104 Bv104 Yv104 Kv104 Tv104 => ((-2147483648 ≤ nv104 ∧ nv104 < 2147483648) ∧ (nv104 = (0 : Int) → pq d 94 14 [some (.inr (.inr (20 : Nat))), some (.inr (.inr e)), some (.inr (.inr (2000 : Nat))), some (.inl (39 : Int)), some (.inl (k + (1 : Int))), none, none] [] (Av104, Bv104, Yv104, Kv104, Tv104) (qR Q)) ∧ (nv104 ≠ (0 : Int) → pq d 94 14 [some (.inr (.inr (20 : Nat))), some (.inr (.inr (1000 + (k).toNat))), some (.inr (.inr (2000 : Nat))), some (.inl (39 : Int)), some (.inl (k + (1 : Int))), none, none] [] (Av104, Bv104, Yv104, Kv104, Tv104) (qR Q))))))))) ∧ (nv103 < nv102 → ((-2147483648 ≤ (1 : Int) ∧ (1 : Int) < 2147483648) ∧ ((1 : Int) = (0 : Int) → pq d 94 14 [some (.inr (.inr (20 : Nat))), some (.inr (.inr e)), some (.inr (.inr (2000 : Nat))), some (.inl (39 : Int)), some (.inl (k + (1 : Int))), none, none] [] (Av103, Bv103, Yv103, Kv103, Tv103) (qR Q)) ∧ ((1 : Int) ≠ (0 : Int) → ((1000 ≤ (1000 + (k).toNat) ∧ (1000 + (k).toNat) < 1039) ∧ (0 < d ∧ pzI (d - 1) 95 [.inr (.inr (20 : Nat)), .inl (Av103 20 7), .inr (.inr ((1000 + (k).toNat) + 2000))] (Av103, Bv103, Yv103, Kv103, Tv103) (fun nv105 Av105 Bv105 Yv105 Kv105 Tv105 => ((-2147483648 ≤ nv105 ∧ nv105 < 2147483648) ∧ (nv105 = (0 : Int) → pq d 94 14 [some (.inr (.inr (20 : Nat))), some (.inr (.inr e)), some (.inr (.inr (2000 : Nat))), some (.inl (39 : Int)), some (.inl (k + (1 : Int))), none, none] [] (Av105, Bv105, Yv105, Kv105, Tv105) (qR Q)) ∧ (nv105 ≠ (0 : Int) → pq d 94 14 [some (.inr (.inr (20 : Nat))), some (.inr (.inr (1000 + (k).toNat))), some (.inr (.inr (2000 : Nat))), some (.inl (39 : Int)), some (.inl (k + (1 : Int))), none, none] [] (Av105, Bv105, Yv105, Kv105, Tv105) (qR Q)))))))))))))))))))))
      refine ⟨by omega, by omega, fun z1 => ?_, fun z1 => ?_⟩
      · skip
        have f2 := XI_r_20_7 hI2
        refine ⟨by omega, ?_⟩
        refine ⟨by omega, by omega, c_163 (by omega) (show 3000 ≤ (e + 2000) ∧ (e + 2000) < 3039 from by omega) (fun nv101 xp101_0 => ?_)⟩
        replace xp101_0 : nv101 = slen (e + 2000) ∧ 0 ≤ nv101 ∧ nv101 ≤ 6 := xp101_0
        have hI5 := XI_w_20_7 (v := ((A2 20 7) + nv101)) hI2 (by omega) (by omega)
        exact q _ _ _ _ hI5 (show 1000 ≤ e ∧ e < 1039 from by omega)
      · skip
        refine ⟨by omega, ?_⟩
        refine ⟨by omega, ?_⟩
        refine ⟨by omega, by omega, c_163 (by omega) (show 3000 ≤ ((1000 + (k).toNat) + 2000) ∧ ((1000 + (k).toNat) + 2000) < 3039 from by omega) (fun nv102 xp102_0 => ?_)⟩
        replace xp102_0 : nv102 = slen ((1000 + (k).toNat) + 2000) ∧ 0 ≤ nv102 ∧ nv102 ≤ 6 := xp102_0
        refine ⟨by omega, ?_⟩
        refine ⟨by omega, by omega, c_163 (by omega) (show 3000 ≤ (e + 2000) ∧ (e + 2000) < 3039 from by omega) (fun nv103 xp103_0 => ?_)⟩
        replace xp103_0 : nv103 = slen (e + 2000) ∧ 0 ≤ nv103 ∧ nv103 ≤ 6 := xp103_0
        refine ⟨by omega, by omega, fun z10 => ?_, fun z10 => ?_⟩
        · skip
          refine ⟨by omega, fun z11 => ?_, fun z11 => ?_⟩
          · skip
            exact ih (e) ((k + (1 : Int))) _ _ _ hI2 (show 1000 ≤ e ∧ e < 1039 from by omega) (show 0 ≤ (k + (1 : Int)) ∧ (k + (1 : Int)) ≤ 39 from by omega) (show (A2 20 7) + slen (e + 2000) ≤ 3000 from by omega) (by show 40 - (k + (1 : Int)) < _; omega)
          · skip
            exact absurd z11 (by decide)
        · skip
          refine ⟨by omega, fun z16 => ?_, fun z16 => ?_⟩
          · skip
            exact absurd z16 (by decide)
          · skip
            have f17 := XI_r_20_7 hI2
            refine ⟨by omega, ?_⟩
            refine ⟨by omega, c_95_20 (by omega) hI2 (show 0 ≤ (A2 20 7) ∧ (A2 20 7) ≤ 3000 from by omega) (show 3000 ≤ ((1000 + (k).toNat) + 2000) ∧ ((1000 + (k).toNat) + 2000) < 3039 from by omega) (fun nv105 xp105_0 => ?_)⟩
            replace xp105_0 : (nv105 = 1 ∧ (A2 20 7) + slen ((1000 + (k).toNat) + 2000) ≤ 3000) ∨ nv105 = 0 := xp105_0
            refine ⟨by omega, fun z20 => ?_, fun z20 => ?_⟩
            · skip
              exact ih (e) ((k + (1 : Int))) _ _ _ hI2 (show 1000 ≤ e ∧ e < 1039 from by omega) (show 0 ≤ (k + (1 : Int)) ∧ (k + (1 : Int)) ≤ 39 from by omega) (show (A2 20 7) + slen (e + 2000) ≤ 3000 from by omega) (by show 40 - (k + (1 : Int)) < _; omega)
            · skip
              exact ih ((1000 + (k).toNat)) ((k + (1 : Int))) _ _ _ hI2 (show 1000 ≤ (1000 + (k).toNat) ∧ (1000 + (k).toNat) < 1039 from by omega) (show 0 ≤ (k + (1 : Int)) ∧ (k + (1 : Int)) ≤ 39 from by omega) (show (A2 20 7) + slen ((1000 + (k).toNat) + 2000) ≤ 3000 from by omega) (by show 40 - (k + (1 : Int)) < _; omega)
  refine pzR_of 9 [(14, [5, 6])] [] ?_
  show pq d 94 14 [some (.inr (.inr (20 : Nat))), some (.inr (.inr (1002 : Nat))), some (.inr (.inr (2000 : Nat))), some (.inl (39 : Int)), some (.inl (0 : Int)), none, none] [] (A, B, Y, K, T) (qR Q)
  have g0 : slen ((1002 : Nat) + 2000) = 0 := by decide
  have g1 := XI_r_20_7 hI
  exact L14 ((40 - (0 : Int)) + 1).toNat ((1002 : Nat)) ((0 : Int)) _ _ _ hI (show 1000 ≤ (1002 : Nat) ∧ (1002 : Nat) < 1039 from by omega) (show 0 ≤ (0 : Int) ∧ (0 : Int) ≤ 39 from by omega) (show (A 20 7) + slen ((1002 : Nat) + 2000) ≤ 3000 from by omega) (by show 40 - (0 : Int) < _; omega)

set_option maxRecDepth 10000 in
set_option maxHeartbeats 400000 in
theorem c_91_20 {m : Nat} {sz : Int} {d : Nat} {A B Y : zF} {K : Nat} {T : zT}  {Q : Nat → zF → zF → zF → Nat → zT → Prop} (hd : 9 ≤ d) (hI : XI m sz A K T) (p1 : (A 20 7) < 3000) (q : ∀ (r : Nat) (A' : zF) (K' : Nat) (T' : zT), XI m sz A' K' T' → (1000 ≤ r ∧ r < 1039) → Q r A' B Y K' T') : pzR d 91 [.inr (.inr (20 : Nat))] (A, B, Y, K, T) Q := by
  refine pzR_of 18 [] [] ?_
  show ((0 ≤ (A 20 7) ∧ (A 20 7) < (3000 : Int)) ∧ (0 < d ∧ pzI (d - 1) 96 [.inl (A 3 ((A 20 7)).toNat)] (A, B, Y, K, T) (fun nv1 Av1 Bv1 Yv1 Kv1 Tv1 => ((-2147483648 ≤ nv1 ∧ nv1 < 2147483648) ∧ (nv1 = (0 : Int) → ((0 ≤ (Av1 20 7) ∧ (Av1 20 7) < (3000 : Int)) ∧ (0 < d ∧ pzI (d - 1) 97 [.inl (Av1 3 ((Av1 20 7)).toNat)] (Av1, Bv1, Yv1, Kv1, Tv1) (fun nv2 Av2 Bv2 Yv2 Kv2 Tv2 => ((-2147483648 ≤ nv2 ∧ nv2 < 2147483648) ∧ (nv2 = (0 : Int) → (0 < d ∧ pzR (d - 1) 94 [.inr (.inr (20 : Nat))] (Av2, Bv2, Yv2, Kv2, Tv2) (fun nv3 Av3 Bv3 Yv3 Kv3 Tv3 => Q nv3 Av3 Bv3 Yv3 Kv3 Tv3))) ∧ (nv2 ≠ (0 : Int) → (0 < d ∧ pzR (d - 1) 93 [.inr (.inr (20 : Nat))] (Av2, Bv2, Yv2, Kv2, Tv2) (fun nv4 Av4 Bv4 Yv4 Kv4 Tv4 => Q nv4 Av4 Bv4 Yv4 Kv4 Tv4)))))))) ∧ (nv1 ≠ (0 : Int) → (0 < d ∧ pzR (d - 1) 92 [.inr (.inr (20 : Nat))] (Av1, Bv1, Yv1, Kv1, Tv1) (fun nv5 Av5 Bv5 Yv5 Kv5 Tv5 => Q nv5 Av5 Bv5 Yv5 Kv5 Tv5)))))))
  have f1 := XI_r_20_7 hI
  refine ⟨by omega, ?_⟩
  have f2 := XI_r_3 hI (((A 20 7)).toNat)
  refine ⟨by omega, c_96 (by omega) (show 0 ≤ (A 3 ((A 20 7)).toNat) ∧ (A 3 ((A 20 7)).toNat) < 65536 from by omega) (fun nv1 xp1_0 => ?_)⟩
  replace xp1_0 : (nv1 = 1 ∧ 48 ≤ (A 3 ((A 20 7)).toNat) ∧ (A 3 ((A 20 7)).toNat) ≤ 57) ∨ nv1 = 0 := xp1_0
  refine ⟨by omega, fun z3 => ?_, fun z3 => ?_⟩
  · skip
    refine ⟨by omega, ?_⟩
    have f4 := XI_r_3 hI (((A 20 7)).toNat)
    refine ⟨by omega, c_97 (by omega) (show 0 ≤ (A 3 ((A 20 7)).toNat) ∧ (A 3 ((A 20 7)).toNat) < 65536 from by omega) (fun nv2 xp2_0 => ?_)⟩
    replace xp2_0 : nv2 = 0 ∨ nv2 = 1 := xp2_0
    refine ⟨by omega, fun z5 => ?_, fun z5 => ?_⟩
    · skip
      refine ⟨by omega, c_94_20 (by omega) hI  (fun nv3 Av3 Kv3 Tv3 xI3 xp3_0 => ?_)⟩
      replace xp3_0 : 1000 ≤ nv3 ∧ nv3 < 1039 := xp3_0
      exact q _ _ _ _ xI3 (show 1000 ≤ nv3 ∧ nv3 < 1039 from by omega)
    · skip
      refine ⟨by omega, c_93_20 (by omega) hI  (fun nv4 Av4 Kv4 Tv4 xI4 xp4_0 => ?_)⟩
      replace xp4_0 : 1000 ≤ nv4 ∧ nv4 < 1039 := xp4_0
      exact q _ _ _ _ xI4 (show 1000 ≤ nv4 ∧ nv4 < 1039 from by omega)
  · skip
    refine ⟨by omega, c_92_20 (by omega) hI  (fun nv5 Av5 Kv5 Tv5 xI5 xp5_0 => ?_)⟩
    replace xp5_0 : 1000 ≤ nv5 ∧ nv5 < 1039 := xp5_0
    exact q _ _ _ _ xI5 (show 1000 ≤ nv5 ∧ nv5 < 1039 from by omega)

set_option maxRecDepth 10000 in
set_option maxHeartbeats 400000 in
theorem c_88_20 {sz : Int} {d : Nat} {A B Y : zF} {K : Nat} {T : zT} {x : Int} {Q : zF → zF → zF → Nat → zT → Prop} (hd : 10 ≤ d) (hI : XI 0 sz A K T) (p1 : 0 ≤ x ∧ x ≤ 3000) (q : ∀ (A' : zF) (K' : Nat) (T' : zT), XI 1 sz A' K' T' → Q A' B Y K' T') : pzV d 88 [.inr (.inr (20 : Nat)), .inl x] (A, B, Y, K, T) Q := by
  have L31 : ∀ (n : Nat) (e : Int) (A2 : zF) (K2 : Nat) (T2 : zT), XI 0 sz A2 K2 T2 → (0 ≤ e ∧ e ≤ 3000) → (e) < (n : Int) → pq d 88 31 [some (.inr (.inr (20 : Nat))), some (.inl x), some (.inl e), none, none] [] (A2, B, Y, K2, T2) (qV Q) := by
    intro n
    induction n with
    | zero =>
      intro e A2 K2 T2 hI2 i0 hm
      exfalso
      omega
    | succ n ih =>
      intro e A2 K2 T2 hI2 i0 hm
      refine pq_of 28 [(31, [3, 4])] [] ?_
      show ((-2147483648 ≤ e ∧ e < 2147483648) ∧ (e ≤ (0 : Int) → (0 < d ∧ pzV (d - 1) 89 [.inr (.inr (20 : Nat)), .inr (.inr (1003 : Nat)), .inl (A2 20 6)] (A2, B, Y, K2, T2) (fun Av101 Bv101 Yv101 Kv101 Tv101 => Q Av101 Bv101 Yv101 Kv101 Tv101))) ∧ ((0 : Int) < e → ((-2147483648 ≤ (A2 20 7) ∧ (A2 20 7) < 2147483648) ∧ (-2147483648 ≤ (A2 20 6) ∧ (A2 20 6) < 2147483648) ∧ ((A2 20 6) ≤ (A2 20 7) → (0 < d ∧ pzV (d - 1) 89 [.inr (.inr (20 : Nat)), .inr (.inr (1003 : Nat)), .inl (A2 20 6)] (A2, B, Y, K2, T2) (fun Av102 Bv102 Yv102 Kv102 Tv102 => Q Av102 Bv102 Yv102 Kv102 Tv102))) ∧ ((A2 20 7) < (A2 20 6) → (0 < d ∧ pzR (d - 1) 91 [.inr (.inr (20 : Nat))] (A2, B, Y, K2, T2) (fun nv103 Av103 Bv103 Yv103 Kv103 Tv103 => (0 < d ∧ pzV (d - 1) 89 [.inr (.inr (20 : Nat)), .inr (.inr nv103), .inl (A2 20 7)] (Av103, Bv103, Yv103, Kv103, Tv103) (fun Av104 Bv104 Yv104 Kv104 Tv104 => ((1000 ≤ nv103 ∧ nv103 < 1064) ∧ (1000 ≤ (1002 : Nat) ∧ (1002 : Nat) < 1064) ∧ (nv103 ≠ (1002 : Nat) → (0 < d ∧ pzV (d - 1) 90 [.inr (.inr (20 : Nat))] (Av104, Bv104, Yv104, Kv104, Tv104) (fun Av105 Bv105 Yv105 Kv105 Tv105 => pq d 88 31 [some (.inr (.inr (20 : Nat))), some (.inl x), some (.inl (e + (-1 : Int))), none, none] [] (Av105, Bv105, Yv105, Kv105, Tv105) (qV Q)))) ∧ (nv103 = (1002 : Nat) → (0 < d ∧ pzV (d - 1) 90 [.inr (.inr (20 : Nat))] ((zu Av104 20 7 (Av104 20 6)), Bv104, Yv104, Kv104, Tv104) (fun Av106 Bv106 Yv106 Kv106 Tv106 => pq d 88 31 [some (.inr (.inr (20 : Nat))), some (.inl x), some (.inl (e + (-1 : Int))), none, none] [] (Av106, Bv106, Yv106, Kv106, Tv106) (qV Q)))))))))))))
      refine ⟨by omega, fun z1 => ?_, fun z1 => ?_⟩
      · skip
        have f2 := XI_r_20_6 hI2
        refine ⟨by omega, c_89b (by omega) hI2 (show 1000 ≤ (1003 : Nat) ∧ (1003 : Nat) < 1039 from by omega) (show 0 ≤ (A2 20 6) ∧ (A2 20 6) ≤ 3000 from by omega) (fun Av101 Kv101 Tv101 xI101 => ?_)⟩
        exact q _ _ _ xI101 
      · skip
        have f3 := XI_r_20_7 hI2
        have f4 := XI_r_20_6 hI2
        refine ⟨by omega, by omega, fun z5 => ?_, fun z5 => ?_⟩
        · skip
          refine ⟨by omega, c_89b (by omega) hI2 (show 1000 ≤ (1003 : Nat) ∧ (1003 : Nat) < 1039 from by omega) (show 0 ≤ (A2 20 6) ∧ (A2 20 6) ≤ 3000 from by omega) (fun Av102 Kv102 Tv102 xI102 => ?_)⟩
          exact q _ _ _ xI102 
        · skip
          refine ⟨by omega, c_91_20 (by omega) hI2 (show (A2 20 7) < 3000 from by omega) (fun nv103 Av103 Kv103 Tv103 xI103 xp103_0 => ?_)⟩
          replace xp103_0 : 1000 ≤ nv103 ∧ nv103 < 1039 := xp103_0
          refine ⟨by omega, c_89_20 (by omega) xI103 (show 1000 ≤ nv103 ∧ nv103 < 1039 from by omega) (show 0 ≤ (A2 20 7) ∧ (A2 20 7) ≤ 3000 from by omega) (fun Av104 Kv104 Tv104 xI104 => ?_)⟩
          refine ⟨by omega, by omega, fun z6 => ?_, fun z6 => ?_⟩
          · skip
            refine ⟨by omega, c_90_20 (by omega) xI104  (fun Av105 Kv105 Tv105 xI105 => ?_)⟩
            exact ih ((e + (-1 : Int))) _ _ _ xI105 (show 0 ≤ (e + (-1 : Int)) ∧ (e + (-1 : Int)) ≤ 3000 from by omega) (by show (e + (-1 : Int)) < _; omega)
          · skip
            have f7 := XI_r_20_6 xI104
            have hI8 := XI_w_20_7 (v := (Av104 20 6)) xI104 (by omega) (by omega)
            refine ⟨by omega, c_90_20 (by omega) hI8  (fun Av106 Kv106 Tv106 xI106 => ?_)⟩
            exact ih ((e + (-1 : Int))) _ _ _ xI106 (show 0 ≤ (e + (-1 : Int)) ∧ (e + (-1 : Int)) ≤ 3000 from by omega) (by show (e + (-1 : Int)) < _; omega)
  refine pzV_of 17 [(31, [3, 4])] [] ?_
  show (0 < d ∧ pzI (d - 1) 172 [.inl x, .inl (3000 : Int)] (A, B, Y, K, T) (fun nv1 Av1 Bv1 Yv1 Kv1 Tv1 => (0 < d ∧ pzV (d - 1) 90 [.inr (.inr (20 : Nat))] ((zu (zu (zu Av1 20 6 nv1) 20 4 (0 : Int)) 20 7 (0 : Int)), Bv1, Yv1, Kv1, Tv1) (fun Av2 Bv2 Yv2 Kv2 Tv2 => pq d 88 31 [some (.inr (.inr (20 : Nat))), some (.inl x), some (.inl (3000 : Int)), none, none] [] (Av2, Bv2, Yv2, Kv2, Tv2) (qV Q)))))
  refine ⟨by omega, c_172 (by omega) (show -2147483648 ≤ x ∧ x ≤ 2147483647 from by omega) (show -2147483648 ≤ (3000 : Int) ∧ (3000 : Int) ≤ 2147483647 from by omega) (fun nv1 xp1_0 => ?_)⟩
  replace xp1_0 : (nv1 = x ∨ nv1 = (3000 : Int)) ∧ nv1 ≤ x ∧ nv1 ≤ (3000 : Int) := xp1_0
  have hI1 := XI_w_20_6 (v := nv1) hI (by omega) (by omega)
  have hI2 := XI_tc0 hI1
  have hI3 := XI_w_20_7 (v := (0 : Int)) hI2 (by omega) (by omega)
  refine ⟨by omega, c_90_20 (by omega) hI3  (fun Av2 Kv2 Tv2 xI2 => ?_)⟩
  exact L31 (((3000 : Int)) + 1).toNat ((3000 : Int)) _ _ _ xI2 (show 0 ≤ (3000 : Int) ∧ (3000 : Int) ≤ 3000 from by omega) (by show (3000 : Int) < _; omega)

