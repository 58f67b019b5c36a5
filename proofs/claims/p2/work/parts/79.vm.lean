/-! The class: the machine -/
set_option maxRecDepth 10000 in
set_option maxHeartbeats 400000 in
theorem c_139 {d : Nat} {A B Y : zF} {K : Nat} {T : zT} {x : Int} {y : Int} {w : Int} {Q : Int → zF → zF → zF → Nat → zT → Prop} (hd : 0 ≤ d) (p1 : -2147483648 ≤ x ∧ x ≤ 2147483647) (p2 : -2147483648 ≤ y ∧ y ≤ 2147483647) (p3 : -2147483648 ≤ w ∧ w ≤ 2147483647) (q : ∀ (r : Int), (-2147483648 ≤ r ∧ r ≤ 2147483647) → Q r A B Y K T) : pzI d 139 [.inl x, .inl y, .inl w] (A, B, Y, K, T) Q := by
  refine pzI_of 8 [] [66, 136, 140, 144] ?_
  show ((-2147483648 ≤ x ∧ x < 2147483648) ∧ ((x < (16 : Int) ∨ (27 : Int) < x) → Q (0 : Int) A B Y K T) ∧ (x = (16 : Int) → (∀ cv1 : Int, -2147483648 ≤ cv1 → cv1 < 2147483648 → Q cv1 A B Y K T)) ∧ (x = (17 : Int) → (∀ cv2 : Int, -2147483648 ≤ cv2 → cv2 < 2147483648 → Q cv2 A B Y K T)) ∧ (x = (18 : Int) → (∀ cv3 : Int, -2147483648 ≤ cv3 → cv3 < 2147483648 → Q cv3 A B Y K T)) ∧ (x = (19 : Int) → ((-2147483648 ≤ y ∧ y < 2147483648) ∧ (-2147483648 ≤ w ∧ w < 2147483648) ∧ (y ≠ w → Q (0 : Int) A B Y K T) ∧ (y = w → Q (1 : Int) A B Y K T))) ∧ (x = (20 : Int) → ((-2147483648 ≤ y ∧ y < 2147483648) ∧ (-2147483648 ≤ w ∧ w < 2147483648) ∧ (y = w → Q (0 : Int) A B Y K T) ∧ (y ≠ w → Q (1 : Int) A B Y K T))) ∧ (x = (21 : Int) → ((-2147483648 ≤ y ∧ y < 2147483648) ∧ (-2147483648 ≤ w ∧ w < 2147483648) ∧ (w ≤ y → Q (0 : Int) A B Y K T) ∧ (y < w → Q (1 : Int) A B Y K T))) ∧ (x = (22 : Int) → ((-2147483648 ≤ y ∧ y < 2147483648) ∧ (-2147483648 ≤ w ∧ w < 2147483648) ∧ (w < y → Q (0 : Int) A B Y K T) ∧ (y ≤ w → Q (1 : Int) A B Y K T))) ∧ (x = (23 : Int) → (∀ cv4 : Int, -2147483648 ≤ cv4 → cv4 < 2147483648 → (∀ cv5 : Int, -2147483648 ≤ cv5 → cv5 < 2147483648 → Q cv5 A B Y K T))) ∧ (x = (24 : Int) → (∀ cv6 : Int, -2147483648 ≤ cv6 → cv6 < 2147483648 → (∀ cv7 : Int, -2147483648 ≤ cv7 → cv7 < 2147483648 → Q cv7 A B Y K T))) ∧ (x = (25 : Int) → (∀ cv8 : Int, -2147483648 ≤ cv8 → cv8 < 2147483648 → Q cv8 A B Y K T)) ∧ (x = (26 : Int) → (∀ cv9 : Int, -2147483648 ≤ cv9 → cv9 < 2147483648 → Q cv9 A B Y K T)) ∧ (x = (27 : Int) → (∀ cv10 : Int, -2147483648 ≤ cv10 → cv10 < 2147483648 → Q cv10 A B Y K T)) ∧ True)
  refine ⟨by omega, fun z1 => ?_, fun z1 => ?_, fun z1 => ?_, fun z1 => ?_, fun z1 => ?_, fun z1 => ?_, fun z1 => ?_, fun z1 => ?_, fun z1 => ?_, fun z1 => ?_, fun z1 => ?_, fun z1 => ?_, fun z1 => ?_, trivial⟩
  · skip
    exact q _ (show -2147483648 ≤ (0 : Int) ∧ (0 : Int) ≤ 2147483647 from by omega)
  · skip
    intro cv1 w2a w2b
    exact q _ (show -2147483648 ≤ cv1 ∧ cv1 ≤ 2147483647 from by omega)
  · skip
    intro cv2 w3a w3b
    exact q _ (show -2147483648 ≤ cv2 ∧ cv2 ≤ 2147483647 from by omega)
  · skip
    intro cv3 w4a w4b
    exact q _ (show -2147483648 ≤ cv3 ∧ cv3 ≤ 2147483647 from by omega)
  · skip
    refine ⟨by omega, by omega, fun z5 => ?_, fun z5 => ?_⟩
    · skip
      exact q _ (show -2147483648 ≤ (0 : Int) ∧ (0 : Int) ≤ 2147483647 from by omega)
    · skip
      exact q _ (show -2147483648 ≤ (1 : Int) ∧ (1 : Int) ≤ 2147483647 from by omega)
  · skip
    refine ⟨by omega, by omega, fun z6 => ?_, fun z6 => ?_⟩
    · skip
      exact q _ (show -2147483648 ≤ (0 : Int) ∧ (0 : Int) ≤ 2147483647 from by omega)
    · skip
      exact q _ (show -2147483648 ≤ (1 : Int) ∧ (1 : Int) ≤ 2147483647 from by omega)
  · skip
    refine ⟨by omega, by omega, fun z7 => ?_, fun z7 => ?_⟩
    · skip
      exact q _ (show -2147483648 ≤ (0 : Int) ∧ (0 : Int) ≤ 2147483647 from by omega)
    · skip
      exact q _ (show -2147483648 ≤ (1 : Int) ∧ (1 : Int) ≤ 2147483647 from by omega)
  · skip
    refine ⟨by omega, by omega, fun z8 => ?_, fun z8 => ?_⟩
    · skip
      exact q _ (show -2147483648 ≤ (0 : Int) ∧ (0 : Int) ≤ 2147483647 from by omega)
    · skip
      exact q _ (show -2147483648 ≤ (1 : Int) ∧ (1 : Int) ≤ 2147483647 from by omega)
  · skip
    intro cv4 w9a w9b
    intro cv5 w10a w10b
    exact q _ (show -2147483648 ≤ cv5 ∧ cv5 ≤ 2147483647 from by omega)
  · skip
    intro cv6 w11a w11b
    intro cv7 w12a w12b
    exact q _ (show -2147483648 ≤ cv7 ∧ cv7 ≤ 2147483647 from by omega)
  · skip
    intro cv8 w13a w13b
    exact q _ (show -2147483648 ≤ cv8 ∧ cv8 ≤ 2147483647 from by omega)
  · skip
    intro cv9 w14a w14b
    exact q _ (show -2147483648 ≤ cv9 ∧ cv9 ≤ 2147483647 from by omega)
  · skip
    intro cv10 w15a w15b
    exact q _ (show -2147483648 ≤ cv10 ∧ cv10 ≤ 2147483647 from by omega)

set_option maxRecDepth 10000 in
set_option maxHeartbeats 400000 in
theorem c_132_31_30 {sz : Int} {d : Nat} {A B Y : zF} {K : Nat} {T : zT}  {Q : zF → zF → zF → Nat → zT → Prop} (hd : 1 ≤ d) (hI : XI 0 sz A K T)  (q : ∀ (A' : zF) (K' : Nat) (T' : zT), XI 0 sz A' K' T' → Q A' B Y K' T') : pzV d 132 [.inr (.inr (31 : Nat)), .inr (.inr (30 : Nat))] (A, B, Y, K, T) Q := by
  refine pzV_of 11 [] [] ?_
  show (0 < d ∧ pzI (d - 1) 172 [.inl (2560 : Int), .inl (2560 : Int)] (A, B, Y, K, T) (fun nv1 Av1 Bv1 Yv1 Kv1 Tv1 => ((0 ≤ (0 : Int) ∧ 0 ≤ (0 : Int) ∧ 0 ≤ nv1) ∧ ((0 : Int) + nv1 ≤ (2560 : Int) ∧ (0 : Int) + nv1 ≤ (2632 : Int)) ∧ True ∧ 0 < d ∧ Q (zua Av1 32 (fun j => if ((0 : Int)).toNat ≤ j ∧ j < ((0 : Int)).toNat + (nv1).toNat then (Av1 30 (((0 : Int)).toNat + (j - ((0 : Int)).toNat))) else (Av1 32 j))) Bv1 Yv1 Kv1 Tv1)))
  refine ⟨by omega, c_172 (by omega) (show -2147483648 ≤ (2560 : Int) ∧ (2560 : Int) ≤ 2147483647 from by omega) (show -2147483648 ≤ (2560 : Int) ∧ (2560 : Int) ≤ 2147483647 from by omega) (fun nv1 xp1_0 => ?_)⟩
  replace xp1_0 : (nv1 = (2560 : Int) ∨ nv1 = (2560 : Int)) ∧ nv1 ≤ (2560 : Int) ∧ nv1 ≤ (2560 : Int) := xp1_0
  refine ⟨by omega, by omega, trivial, by omega, ?_⟩
  have hI1 := XI_a_32 (g := (fun j => if ((0 : Int)).toNat ≤ j ∧ j < ((0 : Int)).toNat + (nv1).toNat then (A 30 (((0 : Int)).toNat + (j - ((0 : Int)).toNat))) else (A 32 j))) hI (fun j => by
    show -2147483648 ≤ (if ((0 : Int)).toNat ≤ j ∧ j < ((0 : Int)).toNat + (nv1).toNat then (A 30 (((0 : Int)).toNat + (j - ((0 : Int)).toNat))) else (A 32 j)) ∧ (if ((0 : Int)).toNat ≤ j ∧ j < ((0 : Int)).toNat + (nv1).toNat then (A 30 (((0 : Int)).toNat + (j - ((0 : Int)).toNat))) else (A 32 j)) ≤ 2147483647
    have f1 := XI_r_30 hI (((0 : Int)).toNat + (j - ((0 : Int)).toNat))
    have f2 := XI_r_32 hI j
    split <;> omega)
  exact q _ _ _ hI1 

set_option maxRecDepth 10000 in
set_option maxHeartbeats 400000 in
theorem c_134_31 {sz : Int} {d : Nat} {A B Y : zF} {K : Nat} {T : zT} {x : Int} {y : Int} {w : Int} {Q : Int → zF → zF → zF → Nat → zT → Prop} (hd : 2 ≤ d) (hI : XI 0 sz A K T) (p1 : 0 ≤ x ∧ x < 40) (q : ∀ (r : Int) (A' : zF) (K' : Nat) (T' : zT), XI 0 sz A' K' T' → Q r A' B Y K' T') : pzI d 134 [.inr (.inr (31 : Nat)), .inl x, .inl y, .inl w] (A, B, Y, K, T) Q := by
  have L6 : ∀ (n : Nat) (e : Int) (k : Int) (A2 : zF) (K2 : Nat) (T2 : zT), XI 0 sz A2 K2 T2 → (0 ≤ k ∧ k ≤ 64) → (65 - k) < (n : Int) → pq d 134 6 [some (.inr (.inr (31 : Nat))), some (.inl x), some (.inl y), some (.inl w), some (.inl e), some (.inl k)] [] (A2, B, Y, K2, T2) (qI Q) := by
    intro n
    induction n with
    | zero =>
      intro e k A2 K2 T2 hI2 i0 hm
      exfalso
      omega
    | succ n ih =>
      intro e k A2 K2 T2 hI2 i0 hm
      refine pq_of 21 [(6, [])] [] ?_
      show (0 < d ∧ pzI (d - 1) 79 [.inr (.inr (2 : Nat)), .inl x] (A2, B, Y, K2, T2) (fun nv101 Av101 Bv101 Yv101 Kv101 Tv101 => ((-2147483648 ≤ k ∧ k < 2147483648) ∧ (-2147483648 ≤ nv101 ∧ nv101 < 2147483648) ∧ (nv101 ≤ k → Q e Av101 Bv101 Yv101 Kv101 Tv101) ∧ (k < nv101 → (0 < d ∧ pzI (d - 1) 71 [.inl x, .inl k] (Av101, Bv101, Yv101, Kv101, Tv101) (fun nv102 Av102 Bv102 Yv102 Kv102 Tv102 => ((0 ≤ nv102 ∧ nv102 < (2632 : Int)) ∧ (∀ cv103 : Int, -2147483648 ≤ cv103 → cv103 < 2147483648 → ((0 ≤ nv102 ∧ nv102 < (2632 : Int)) ∧ pq d 134 6 [some (.inr (.inr (31 : Nat))), some (.inl x), some (.inl y), some (.inl w), some (.inl (e + (2 : Int))), some (.inl (k + (1 : Int)))] [] ((zu Av102 32 (nv102).toNat cv103), Bv102, Yv102, Kv102, Tv102) (qI Q))))))))))
      refine ⟨by omega, c_79_2 (by omega) hI2 (show -2147483648 ≤ x ∧ x ≤ 2147483647 from by omega) (fun nv101 xp101_0 xp101_1 => ?_)⟩
      replace xp101_0 : 0 ≤ nv101 ∧ nv101 ≤ 64 := xp101_0
      replace xp101_1 : nv101 = 0 ∨ (0 ≤ x ∧ x < 40) := xp101_1
      refine ⟨by omega, by omega, fun z1 => ?_, fun z1 => ?_⟩
      · skip
        exact q _ _ _ _ hI2 
      · skip
        refine ⟨by omega, c_71 (by omega)  (fun nv102 xp102_0 => ?_)⟩
        replace xp102_0 : nv102 = x * 64 + k := xp102_0
        refine ⟨by omega, ?_⟩
        have f2 := XI_r_32 hI2 ((nv102).toNat)
        intro cv103 w3a w3b
        refine ⟨by omega, ?_⟩
        have hI4 := XI_w_32 (j := (nv102).toNat) (v := cv103) hI2 (by omega) (by omega)
        exact ih ((e + (2 : Int))) ((k + (1 : Int))) _ _ _ hI4 (show 0 ≤ (k + (1 : Int)) ∧ (k + (1 : Int)) ≤ 64 from by omega) (by show 65 - (k + (1 : Int)) < _; omega)
  refine pzI_of 4 [(6, [])] [] ?_
  show pq d 134 6 [some (.inr (.inr (31 : Nat))), some (.inl x), some (.inl y), some (.inl w), some (.inl w), some (.inl (0 : Int))] [] (A, B, Y, K, T) (qI Q)
  exact L6 ((65 - (0 : Int)) + 1).toNat (w) ((0 : Int)) _ _ _ hI (show 0 ≤ (0 : Int) ∧ (0 : Int) ≤ 64 from by omega) (by show 65 - (0 : Int) < _; omega)

set_option maxRecDepth 10000 in
set_option maxHeartbeats 400000 in
theorem c_150_31 {sz : Int} {d : Nat} {A B Y : zF} {K : Nat} {T : zT} {x : Int} {Q : zF → zF → zF → Nat → zT → Prop} (hd : 0 ≤ d) (hI : XI 0 sz A K T) (p1 : -2147483648 ≤ x ∧ x ≤ 2147483647) (q : ∀ (A' : zF) (K' : Nat) (T' : zT), XI 0 sz A' K' T' → Q A' B Y K' T') : pzV d 150 [.inr (.inr (31 : Nat)), .inl x] (A, B, Y, K, T) Q := by
  refine pzV_of 19 [] [] ?_
  show ((-2147483648 ≤ (A 31 7) ∧ (A 31 7) < 2147483648) ∧ (-2147483648 ≤ (3000 : Int) ∧ (3000 : Int) < 2147483648) ∧ ((3000 : Int) ≤ (A 31 7) → Q A B Y K T) ∧ ((A 31 7) < (3000 : Int) → ((0 ≤ (A 31 7) ∧ (A 31 7) < (3000 : Int)) ∧ Q (zu (zu A 34 ((A 31 7)).toNat x) 31 7 ((A 31 7) + (1 : Int))) B Y K T)))
  have f1 := XI_r_31_7 hI
  refine ⟨by omega, by omega, fun z2 => ?_, fun z2 => ?_⟩
  · skip
    exact q _ _ _ hI 
  · skip
    refine ⟨by omega, ?_⟩
    have hI3 := XI_w_34 (j := ((A 31 7)).toNat) (v := x) hI (by omega) (by omega)
    have hI4 := XI_w_31_7 (v := ((A 31 7) + (1 : Int))) hI3 (by omega) (by omega)
    exact q _ _ _ hI4 

set_option maxRecDepth 10000 in
set_option maxHeartbeats 400000 in
theorem c_151_31 {sz : Int} {d : Nat} {A B Y : zF} {K : Nat} {T : zT}  {Q : Int → zF → zF → zF → Nat → zT → Prop} (hd : 0 ≤ d) (hI : XI 0 sz A K T)  (q : ∀ (r : Int) (A' : zF) (K' : Nat) (T' : zT), XI 0 sz A' K' T' → (-2147483648 ≤ r ∧ r ≤ 2147483647) → Q r A' B Y K' T') : pzI d 151 [.inr (.inr (31 : Nat))] (A, B, Y, K, T) Q := by
  refine pzI_of 15 [] [] ?_
  show ((-2147483648 ≤ (A 31 7) ∧ (A 31 7) < 2147483648) ∧ ((A 31 7) ≠ (0 : Int) → ((0 ≤ ((A 31 7) - (1 : Int)) ∧ ((A 31 7) - (1 : Int)) < (3000 : Int)) ∧ Q (A 34 (((A 31 7) - (1 : Int))).toNat) (zu A 31 7 ((A 31 7) - (1 : Int))) B Y K T)) ∧ ((A 31 7) = (0 : Int) → Q (0 : Int) A B Y K T))
  have f1 := XI_r_31_7 hI
  refine ⟨by omega, fun z2 => ?_, fun z2 => ?_⟩
  · skip
    have hI3 := XI_w_31_7 (v := ((A 31 7) - (1 : Int))) hI (by omega) (by omega)
    refine ⟨by omega, ?_⟩
    have f4 := XI_r_34 hI ((((A 31 7) - (1 : Int))).toNat)
    exact q _ _ _ _ hI3 (show -2147483648 ≤ (A 34 (((A 31 7) - (1 : Int))).toNat) ∧ (A 34 (((A 31 7) - (1 : Int))).toNat) ≤ 2147483647 from by omega)
  · skip
    exact q _ _ _ _ hI (show -2147483648 ≤ (0 : Int) ∧ (0 : Int) ≤ 2147483647 from by omega)

set_option maxRecDepth 10000 in
set_option maxHeartbeats 400000 in
theorem c_141_31 {sz : Int} {d : Nat} {A B Y : zF} {K : Nat} {T : zT} {x : Int} {Q : Int → zF → zF → zF → Nat → zT → Prop} (hd : 0 ≤ d) (hI : XI 0 sz A K T) (p1 : -2147483648 ≤ x ∧ x ≤ 2147483647) (q : ∀ (r : Int), (-2147483648 ≤ r ∧ r ≤ 2147483647) → Q r A B Y K T) : pzI d 141 [.inr (.inr (31 : Nat)), .inl x] (A, B, Y, K, T) Q := by
  refine pzI_of 13 [] [] ?_
  show ((-2147483648 ≤ x ∧ x < 2147483648) ∧ (x < (0 : Int) → Q (0 : Int) A B Y K T) ∧ ((0 : Int) ≤ x → ((-2147483648 ≤ x ∧ x < 2147483648) ∧ (-2147483648 ≤ (2632 : Int) ∧ (2632 : Int) < 2147483648) ∧ ((2632 : Int) ≤ x → Q (0 : Int) A B Y K T) ∧ (x < (2632 : Int) → ((0 ≤ x ∧ x < (2632 : Int)) ∧ Q (A 32 (x).toNat) A B Y K T)))))
  refine ⟨by omega, fun z1 => ?_, fun z1 => ?_⟩
  · skip
    exact q _ (show -2147483648 ≤ (0 : Int) ∧ (0 : Int) ≤ 2147483647 from by omega)
  · skip
    refine ⟨by omega, by omega, fun z2 => ?_, fun z2 => ?_⟩
    · skip
      exact q _ (show -2147483648 ≤ (0 : Int) ∧ (0 : Int) ≤ 2147483647 from by omega)
    · skip
      refine ⟨by omega, ?_⟩
      have f3 := XI_r_32 hI ((x).toNat)
      exact q _ (show -2147483648 ≤ (A 32 (x).toNat) ∧ (A 32 (x).toNat) ≤ 2147483647 from by omega)

set_option maxRecDepth 10000 in
set_option maxHeartbeats 400000 in
theorem c_142_31 {sz : Int} {d : Nat} {A B Y : zF} {K : Nat} {T : zT} {x : Int} {y : Int} {Q : zF → zF → zF → Nat → zT → Prop} (hd : 0 ≤ d) (hI : XI 0 sz A K T) (p1 : -2147483648 ≤ x ∧ x ≤ 2147483647) (p2 : -2147483648 ≤ y ∧ y ≤ 2147483647) (q : ∀ (A' : zF) (K' : Nat) (T' : zT), XI 0 sz A' K' T' → Q A' B Y K' T') : pzV d 142 [.inr (.inr (31 : Nat)), .inl x, .inl y] (A, B, Y, K, T) Q := by
  refine pzV_of 13 [] [] ?_
  show ((-2147483648 ≤ x ∧ x < 2147483648) ∧ (x < (0 : Int) → Q A B Y K T) ∧ ((0 : Int) ≤ x → ((-2147483648 ≤ x ∧ x < 2147483648) ∧ (-2147483648 ≤ (2632 : Int) ∧ (2632 : Int) < 2147483648) ∧ ((2632 : Int) ≤ x → Q A B Y K T) ∧ (x < (2632 : Int) → ((0 ≤ x ∧ x < (2632 : Int)) ∧ Q (zu A 32 (x).toNat y) B Y K T)))))
  refine ⟨by omega, fun z1 => ?_, fun z1 => ?_⟩
  · skip
    exact q _ _ _ hI 
  · skip
    refine ⟨by omega, by omega, fun z2 => ?_, fun z2 => ?_⟩
    · skip
      exact q _ _ _ hI 
    · skip
      refine ⟨by omega, ?_⟩
      have hI3 := XI_w_32 (j := (x).toNat) (v := y) hI (by omega) (by omega)
      exact q _ _ _ hI3 

set_option maxRecDepth 10000 in
set_option maxHeartbeats 400000 in
theorem c_143_31 {sz : Int} {d : Nat} {A B Y : zF} {K : Nat} {T : zT}  {Q : zF → zF → zF → Nat → zT → Prop} (hd : 0 ≤ d) (hI : XI 0 sz A K T)  (q : ∀ (A' : zF) (K' : Nat) (T' : zT), XI 0 sz A' K' T' → Q A' B Y K' T') : pzV d 143 [.inr (.inr (31 : Nat))] (A, B, Y, K, T) Q := by
  refine pzV_of 12 [] [] ?_
  show ((-2147483648 ≤ (A 31 4) ∧ (A 31 4) < 2147483648) ∧ (-2147483648 ≤ (A 31 9) ∧ (A 31 9) < 2147483648) ∧ ((A 31 4) < (A 31 9) → Q (zu A 31 4 ((A 31 4) + (1 : Int))) B Y K T) ∧ ((A 31 9) ≤ (A 31 4) → Q (zu A 31 5 (1 : Int)) B Y K T))
  have f1 := XI_r_31_4 hI
  have f2 := XI_r_31_9 hI
  refine ⟨by omega, by omega, fun z3 => ?_, fun z3 => ?_⟩
  · skip
    have hI4 := XI_w_31_4 (v := ((A 31 4) + (1 : Int))) hI (by omega) (by omega)
    exact q _ _ _ hI4 
  · skip
    have hI5 := XI_w_31_5 (v := (1 : Int)) hI (by omega) (by omega)
    exact q _ _ _ hI5 

set_option maxRecDepth 10000 in
set_option maxHeartbeats 400000 in
theorem c_144_31 {sz : Int} {d : Nat} {A B Y : zF} {K : Nat} {T : zT} {x : Int} {Q : Int → zF → zF → zF → Nat → zT → Prop} (hd : 0 ≤ d) (hI : XI 0 sz A K T) (p1 : -2147483648 ≤ x ∧ x ≤ 2147483647) (q : ∀ (r : Int) (A' : zF) (K' : Nat) (T' : zT), XI 0 sz A' K' T' → (r = 0 ∨ r = 1) → Q r A' B Y K' T') : pzI d 144 [.inr (.inr (31 : Nat)), .inl x] (A, B, Y, K, T) Q := by
  refine pzI_of 18 [] [] ?_
  show ((-2147483648 ≤ (A 31 3) ∧ (A 31 3) < 2147483648) ∧ (-2147483648 ≤ (4000 : Int) ∧ (4000 : Int) < 2147483648) ∧ ((A 31 3) < (4000 : Int) → ((0 ≤ (A 31 3) ∧ (A 31 3) < (4000 : Int)) ∧ (((1 : Int) = 0 ∨ (1 : Int) = 1) ∧ Q (1 : Int) (zu (zu A 33 ((A 31 3)).toNat x) 31 3 ((A 31 3) + (1 : Int))) B Y K T))) ∧ ((4000 : Int) ≤ (A 31 3) → (((0 : Int) = 0 ∨ (0 : Int) = 1) ∧ Q (0 : Int) (zu A 31 5 (4 : Int)) B Y K T)))
  have f1 := XI_r_31_3 hI
  refine ⟨by omega, by omega, fun z2 => ?_, fun z2 => ?_⟩
  · skip
    refine ⟨by omega, ?_⟩
    have hI3 := XI_w_33 (j := ((A 31 3)).toNat) (v := x) hI (by omega) (by omega)
    have hI4 := XI_w_31_3 (v := ((A 31 3) + (1 : Int))) hI3 (by omega) (by omega)
    exact ⟨by omega, q _ _ _ _ hI4 (show (1 : Int) = 0 ∨ (1 : Int) = 1 from by omega)⟩
  · skip
    have hI5 := XI_w_31_5 (v := (4 : Int)) hI (by omega) (by omega)
    exact ⟨by omega, q _ _ _ _ hI5 (show (0 : Int) = 0 ∨ (0 : Int) = 1 from by omega)⟩

set_option maxRecDepth 10000 in
set_option maxHeartbeats 400000 in
theorem c_145_31 {sz : Int} {d : Nat} {A B Y : zF} {K : Nat} {T : zT} {x : Int} {y : Int} {Q : Int → zF → zF → zF → Nat → zT → Prop} (hd : 3 ≤ d) (hI : XI 0 sz A K T) (p1 : -2147483648 ≤ x ∧ x ≤ 2147483647) (p2 : -2147483648 ≤ y ∧ y ≤ 2147483647) (q : ∀ (r : Int) (A' : zF) (K' : Nat) (T' : zT), XI 0 sz A' K' T' → ((r = 1 ∧ 0 ≤ x ∧ x < 40 ∧ 0 ≤ y ∧ y < 64) ∨ r = 0) → Q r A' B Y K' T') : pzI d 145 [.inr (.inr (31 : Nat)), .inl x, .inl y] (A, B, Y, K, T) Q := by
  refine pzI_of 18 [] [34] ?_
  show (0 < d ∧ pzI (d - 1) 78 [.inr (.inr (2 : Nat)), .inl x, .inl y] (A, B, Y, K, T) (fun nv1 Av1 Bv1 Yv1 Kv1 Tv1 => ((-2147483648 ≤ nv1 ∧ nv1 < 2147483648) ∧ (nv1 ≠ (0 : Int) → ((0 ≤ x ∧ x < (40 : Int)) ∧ (0 < d ∧ pzI (d - 1) 71 [.inl (Av1 9 (x).toNat), .inl y] (Av1, Bv1, Yv1, Kv1, Tv1) (fun nv2 Av2 Bv2 Yv2 Kv2 Tv2 => (∀ cv3 : Int, -2147483648 ≤ cv3 → cv3 < 2147483648 → (0 < d ∧ pzI (d - 1) 144 [.inr (.inr (31 : Nat)), .inl cv3] (Av2, Bv2, Yv2, Kv2, Tv2) (fun nv4 Av4 Bv4 Yv4 Kv4 Tv4 => ((nv4 = 0 ∨ nv4 = 1) ∧ Q nv4 Av4 Bv4 Yv4 Kv4 Tv4)))))))) ∧ (nv1 = (0 : Int) → (((0 : Int) = 0 ∨ (0 : Int) = 1) ∧ Q (0 : Int) (zu Av1 31 5 (2 : Int)) Bv1 Yv1 Kv1 Tv1)))))
  refine ⟨by omega, c_78_2 (by omega) hI (show -2147483648 ≤ x ∧ x ≤ 2147483647 from by omega) (show -2147483648 ≤ y ∧ y ≤ 2147483647 from by omega) (fun nv1 xp1_0 => ?_)⟩
  replace xp1_0 : (nv1 = 1 ∧ 0 ≤ x ∧ x < 40 ∧ 0 ≤ y ∧ y < 64) ∨ nv1 = 0 := xp1_0
  refine ⟨by omega, fun z1 => ?_, fun z1 => ?_⟩
  · skip
    refine ⟨by omega, ?_⟩
    refine ⟨by omega, c_71 (by omega)  (fun nv2 xp2_0 => ?_)⟩
    replace xp2_0 : nv2 = (A 9 (x).toNat) * 64 + y := xp2_0
    intro cv3 w2a w2b
    refine ⟨by omega, c_144_31 (by omega) hI (show -2147483648 ≤ cv3 ∧ cv3 ≤ 2147483647 from by omega) (fun nv4 Av4 Kv4 Tv4 xI4 xp4_0 => ?_)⟩
    replace xp4_0 : nv4 = 0 ∨ nv4 = 1 := xp4_0
    exact ⟨by omega, q _ _ _ _ xI4 (show (nv4 = 1 ∧ 0 ≤ x ∧ x < 40 ∧ 0 ≤ y ∧ y < 64) ∨ nv4 = 0 from by omega)⟩
  · skip
    have hI3 := XI_w_31_5 (v := (2 : Int)) hI (by omega) (by omega)
    exact ⟨by omega, q _ _ _ _ hI3 (show ((0 : Int) = 1 ∧ 0 ≤ x ∧ x < 40 ∧ 0 ≤ y ∧ y < 64) ∨ (0 : Int) = 0 from by omega)⟩

set_option maxRecDepth 10000 in
set_option maxHeartbeats 400000 in
theorem c_146_31 {sz : Int} {d : Nat} {A B Y : zF} {K : Nat} {T : zT} {x : Int} {Q : zF → zF → zF → Nat → zT → Prop} (hd : 4 ≤ d) (hI : XI 0 sz A K T) (p1 : -2147483648 ≤ x ∧ x ≤ 2147483647) (q : ∀ (A' : zF) (K' : Nat) (T' : zT), XI 0 sz A' K' T' → Q A' B Y K' T') : pzV d 146 [.inr (.inr (31 : Nat)), .inl x] (A, B, Y, K, T) Q := by
  refine pzV_of 16 [] [] ?_
  show (0 < d ∧ pzI (d - 1) 151 [.inr (.inr (31 : Nat))] (A, B, Y, K, T) (fun nv1 Av1 Bv1 Yv1 Kv1 Tv1 => (0 < d ∧ pzI (d - 1) 145 [.inr (.inr (31 : Nat)), .inl x, .inl nv1] (Av1, Bv1, Yv1, Kv1, Tv1) (fun nv2 Av2 Bv2 Yv2 Kv2 Tv2 => ((-2147483648 ≤ nv2 ∧ nv2 < 2147483648) ∧ (nv2 = (0 : Int) → Q Av2 Bv2 Yv2 Kv2 Tv2) ∧ (nv2 ≠ (0 : Int) → (0 < d ∧ pzI (d - 1) 71 [.inl x, .inl nv1] (Av2, Bv2, Yv2, Kv2, Tv2) (fun nv3 Av3 Bv3 Yv3 Kv3 Tv3 => (0 < d ∧ pzI (d - 1) 141 [.inr (.inr (31 : Nat)), .inl nv3] (Av3, Bv3, Yv3, Kv3, Tv3) (fun nv4 Av4 Bv4 Yv4 Kv4 Tv4 => (0 < d ∧ pzV (d - 1) 150 [.inr (.inr (31 : Nat)), .inl nv4] (Av4, Bv4, Yv4, Kv4, Tv4) (fun Av5 Bv5 Yv5 Kv5 Tv5 => Q Av5 Bv5 Yv5 Kv5 Tv5))))))))))))
  refine ⟨by omega, c_151_31 (by omega) hI  (fun nv1 Av1 Kv1 Tv1 xI1 xp1_0 => ?_)⟩
  replace xp1_0 : -2147483648 ≤ nv1 ∧ nv1 ≤ 2147483647 := xp1_0
  refine ⟨by omega, c_145_31 (by omega) xI1 (show -2147483648 ≤ x ∧ x ≤ 2147483647 from by omega) (show -2147483648 ≤ nv1 ∧ nv1 ≤ 2147483647 from by omega) (fun nv2 Av2 Kv2 Tv2 xI2 xp2_0 => ?_)⟩
  replace xp2_0 : (nv2 = 1 ∧ 0 ≤ x ∧ x < 40 ∧ 0 ≤ nv1 ∧ nv1 < 64) ∨ nv2 = 0 := xp2_0
  refine ⟨by omega, fun z1 => ?_, fun z1 => ?_⟩
  · skip
    exact q _ _ _ xI2 
  · skip
    refine ⟨by omega, c_71 (by omega)  (fun nv3 xp3_0 => ?_)⟩
    replace xp3_0 : nv3 = x * 64 + nv1 := xp3_0
    refine ⟨by omega, c_141_31 (by omega) xI2 (show -2147483648 ≤ nv3 ∧ nv3 ≤ 2147483647 from by omega) (fun nv4 xp4_0 => ?_)⟩
    replace xp4_0 : -2147483648 ≤ nv4 ∧ nv4 ≤ 2147483647 := xp4_0
    refine ⟨by omega, c_150_31 (by omega) xI2 (show -2147483648 ≤ nv4 ∧ nv4 ≤ 2147483647 from by omega) (fun Av5 Kv5 Tv5 xI5 => ?_)⟩
    exact q _ _ _ xI5 

set_option maxRecDepth 10000 in
set_option maxHeartbeats 400000 in
theorem c_147_31 {sz : Int} {d : Nat} {A B Y : zF} {K : Nat} {T : zT} {x : Int} {Q : zF → zF → zF → Nat → zT → Prop} (hd : 4 ≤ d) (hI : XI 0 sz A K T) (p1 : -2147483648 ≤ x ∧ x ≤ 2147483647) (q : ∀ (A' : zF) (K' : Nat) (T' : zT), XI 0 sz A' K' T' → Q A' B Y K' T') : pzV d 147 [.inr (.inr (31 : Nat)), .inl x] (A, B, Y, K, T) Q := by
  refine pzV_of 18 [] [] ?_
  show (0 < d ∧ pzI (d - 1) 151 [.inr (.inr (31 : Nat))] (A, B, Y, K, T) (fun nv1 Av1 Bv1 Yv1 Kv1 Tv1 => (0 < d ∧ pzI (d - 1) 151 [.inr (.inr (31 : Nat))] (Av1, Bv1, Yv1, Kv1, Tv1) (fun nv2 Av2 Bv2 Yv2 Kv2 Tv2 => (0 < d ∧ pzI (d - 1) 145 [.inr (.inr (31 : Nat)), .inl x, .inl nv2] (Av2, Bv2, Yv2, Kv2, Tv2) (fun nv3 Av3 Bv3 Yv3 Kv3 Tv3 => ((-2147483648 ≤ nv3 ∧ nv3 < 2147483648) ∧ (nv3 = (0 : Int) → Q Av3 Bv3 Yv3 Kv3 Tv3) ∧ (nv3 ≠ (0 : Int) → (0 < d ∧ pzI (d - 1) 71 [.inl x, .inl nv2] (Av3, Bv3, Yv3, Kv3, Tv3) (fun nv4 Av4 Bv4 Yv4 Kv4 Tv4 => (0 < d ∧ pzV (d - 1) 142 [.inr (.inr (31 : Nat)), .inl nv4, .inl nv1] (Av4, Bv4, Yv4, Kv4, Tv4) (fun Av5 Bv5 Yv5 Kv5 Tv5 => Q Av5 Bv5 Yv5 Kv5 Tv5))))))))))))
  refine ⟨by omega, c_151_31 (by omega) hI  (fun nv1 Av1 Kv1 Tv1 xI1 xp1_0 => ?_)⟩
  replace xp1_0 : -2147483648 ≤ nv1 ∧ nv1 ≤ 2147483647 := xp1_0
  refine ⟨by omega, c_151_31 (by omega) xI1  (fun nv2 Av2 Kv2 Tv2 xI2 xp2_0 => ?_)⟩
  replace xp2_0 : -2147483648 ≤ nv2 ∧ nv2 ≤ 2147483647 := xp2_0
  refine ⟨by omega, c_145_31 (by omega) xI2 (show -2147483648 ≤ x ∧ x ≤ 2147483647 from by omega) (show -2147483648 ≤ nv2 ∧ nv2 ≤ 2147483647 from by omega) (fun nv3 Av3 Kv3 Tv3 xI3 xp3_0 => ?_)⟩
  replace xp3_0 : (nv3 = 1 ∧ 0 ≤ x ∧ x < 40 ∧ 0 ≤ nv2 ∧ nv2 < 64) ∨ nv3 = 0 := xp3_0
  refine ⟨by omega, fun z1 => ?_, fun z1 => ?_⟩
  · skip
    exact q _ _ _ xI3 
  · skip
    refine ⟨by omega, c_71 (by omega)  (fun nv4 xp4_0 => ?_)⟩
    replace xp4_0 : nv4 = x * 64 + nv2 := xp4_0
    refine ⟨by omega, c_142_31 (by omega) xI3 (show -2147483648 ≤ nv4 ∧ nv4 ≤ 2147483647 from by omega) (show -2147483648 ≤ nv1 ∧ nv1 ≤ 2147483647 from by omega) (fun Av5 Kv5 Tv5 xI5 => ?_)⟩
    exact q _ _ _ xI5 

set_option maxRecDepth 10000 in
set_option maxHeartbeats 400000 in
theorem c_149_31 {sz : Int} {d : Nat} {A B Y : zF} {K : Nat} {T : zT}  {Q : zF → zF → zF → Nat → zT → Prop} (hd : 1 ≤ d) (hI : XI 0 sz A K T)  (q : ∀ (A' : zF) (K' : Nat) (T' : zT), XI 0 sz A' K' T' → Q A' B Y K' T') : pzV d 149 [.inr (.inr (31 : Nat))] (A, B, Y, K, T) Q := by
  refine pzV_of 11 [] [] ?_
  show (0 < d ∧ pzI (d - 1) 151 [.inr (.inr (31 : Nat))] (A, B, Y, K, T) (fun nv1 Av1 Bv1 Yv1 Kv1 Tv1 => (0 < d ∧ pzI (d - 1) 151 [.inr (.inr (31 : Nat))] (Av1, Bv1, Yv1, Kv1, Tv1) (fun nv2 Av2 Bv2 Yv2 Kv2 Tv2 => (0 < d ∧ pzV (d - 1) 150 [.inr (.inr (31 : Nat)), .inl nv1] ((zu Av2 31 8 nv2), Bv2, Yv2, Kv2, Tv2) (fun Av3 Bv3 Yv3 Kv3 Tv3 => Q Av3 Bv3 Yv3 Kv3 Tv3))))))
  refine ⟨by omega, c_151_31 (by omega) hI  (fun nv1 Av1 Kv1 Tv1 xI1 xp1_0 => ?_)⟩
  replace xp1_0 : -2147483648 ≤ nv1 ∧ nv1 ≤ 2147483647 := xp1_0
  refine ⟨by omega, c_151_31 (by omega) xI1  (fun nv2 Av2 Kv2 Tv2 xI2 xp2_0 => ?_)⟩
  replace xp2_0 : -2147483648 ≤ nv2 ∧ nv2 ≤ 2147483647 := xp2_0
  have hI1 := XI_w_31_8 (v := nv2) xI2 (by omega) (by omega)
  refine ⟨by omega, c_150_31 (by omega) hI1 (show -2147483648 ≤ nv1 ∧ nv1 ≤ 2147483647 from by omega) (fun Av3 Kv3 Tv3 xI3 => ?_)⟩
  exact q _ _ _ xI3 

set_option maxRecDepth 10000 in
set_option maxHeartbeats 400000 in
theorem c_140_31 {sz : Int} {d : Nat} {A B Y : zF} {K : Nat} {T : zT} {x : Int} {y : Int} {w : Int} {Q : zF → zF → zF → Nat → zT → Prop} (hd : 1 ≤ d) (hI : XI 0 sz A K T) (p1 : -2147483648 ≤ x ∧ x ≤ 2147483647) (p2 : -2147483648 ≤ y ∧ y ≤ 2147483647) (p3 : w = 0 ∨ w = 1) (q : ∀ (A' : zF) (K' : Nat) (T' : zT), XI 0 sz A' K' T' → Q A' B Y K' T') : pzV d 140 [.inr (.inr (31 : Nat)), .inl x, .inl y, .inl w] (A, B, Y, K, T) Q := by
  refine pzV_of 11 [] [] ?_
  show ((-2147483648 ≤ y ∧ y < 2147483648) ∧ (y ≠ (0 : Int) → ((-2147483648 ≤ w ∧ w < 2147483648) ∧ (w = (0 : Int) → ((-2147483648 ≤ y ∧ y < 2147483648 ∧ y ≠ 0) ∧ (∀ cv1 : Int, -2147483648 ≤ cv1 → cv1 < 2147483648 → (0 < d ∧ pzV (d - 1) 150 [.inr (.inr (31 : Nat)), .inl cv1] (A, B, Y, K, T) (fun Av2 Bv2 Yv2 Kv2 Tv2 => Q Av2 Bv2 Yv2 Kv2 Tv2))))) ∧ (w ≠ (0 : Int) → ((-2147483648 ≤ y ∧ y < 2147483648 ∧ y ≠ 0) ∧ (∀ cv3 : Int, -2147483648 ≤ cv3 → cv3 < 2147483648 → (0 < d ∧ pzV (d - 1) 150 [.inr (.inr (31 : Nat)), .inl cv3] (A, B, Y, K, T) (fun Av4 Bv4 Yv4 Kv4 Tv4 => Q Av4 Bv4 Yv4 Kv4 Tv4))))))) ∧ (y = (0 : Int) → Q (zu A 31 5 (3 : Int)) B Y K T))
  refine ⟨by omega, fun z1 => ?_, fun z1 => ?_⟩
  · skip
    refine ⟨by omega, fun z2 => ?_, fun z2 => ?_⟩
    · skip
      refine ⟨by omega, fun cv1 w3a w3b => ?_⟩
      refine ⟨by omega, c_150_31 (by omega) hI (show -2147483648 ≤ cv1 ∧ cv1 ≤ 2147483647 from by omega) (fun Av2 Kv2 Tv2 xI2 => ?_)⟩
      exact q _ _ _ xI2 
    · skip
      refine ⟨by omega, fun cv3 w4a w4b => ?_⟩
      refine ⟨by omega, c_150_31 (by omega) hI (show -2147483648 ≤ cv3 ∧ cv3 ≤ 2147483647 from by omega) (fun Av4 Kv4 Tv4 xI4 => ?_)⟩
      exact q _ _ _ xI4 
  · skip
    have hI5 := XI_w_31_5 (v := (3 : Int)) hI (by omega) (by omega)
    exact q _ _ _ hI5 

set_option maxRecDepth 10000 in
set_option maxHeartbeats 400000 in
theorem c_148_31 {sz : Int} {d : Nat} {A B Y : zF} {K : Nat} {T : zT} {x : Int} {Q : zF → zF → zF → Nat → zT → Prop} (hd : 2 ≤ d) (hI : XI 0 sz A K T) (p1 : -2147483648 ≤ x ∧ x ≤ 2147483647) (q : ∀ (A' : zF) (K' : Nat) (T' : zT), XI 0 sz A' K' T' → Q A' B Y K' T') : pzV d 148 [.inr (.inr (31 : Nat)), .inl x] (A, B, Y, K, T) Q := by
  have L45 : ∀ (n : Nat) (e : Int) (k : Int) (A2 : zF) (K2 : Nat) (T2 : zT), XI 0 sz A2 K2 T2 → (0 ≤ e ∧ e ≤ 2620) → (-1 ≤ k ∧ k ≤ 11) → (0 ≤ x ∧ x < 6) → (k + 1) < (n : Int) → pq d 148 45 [some (.inr (.inr (31 : Nat))), some (.inl x), some (.inl e), some (.inl k)] [] (A2, B, Y, K2, T2) (qV Q) := by
    intro n
    induction n with
    | zero =>
      intro e k A2 K2 T2 hI2 i0 i1 i2 hm
      exfalso
      omega
    | succ n ih =>
      intro e k A2 K2 T2 hI2 i0 i1 i2 hm
      refine pq_of 14 [(45, [])] [] ?_
      show ((-2147483648 ≤ k ∧ k < 2147483648) ∧ (k < (0 : Int) → (0 < d ∧ pzV (d - 1) 150 [.inr (.inr (31 : Nat)), .inl (A2 31 8)] (A2, B, Y, K2, T2) (fun Av101 Bv101 Yv101 Kv101 Tv101 => ((0 ≤ x ∧ x < (6 : Int)) ∧ Q (zu Av101 31 8 (Av101 14 (x).toNat)) Bv101 Yv101 Kv101 Tv101)))) ∧ ((0 : Int) ≤ k → (0 < d ∧ pzI (d - 1) 151 [.inr (.inr (31 : Nat))] (A2, B, Y, K2, T2) (fun nv102 Av102 Bv102 Yv102 Kv102 Tv102 => (0 < d ∧ pzV (d - 1) 142 [.inr (.inr (31 : Nat)), .inl (e + k), .inl nv102] (Av102, Bv102, Yv102, Kv102, Tv102) (fun Av103 Bv103 Yv103 Kv103 Tv103 => pq d 148 45 [some (.inr (.inr (31 : Nat))), some (.inl x), some (.inl e), some (.inl (k + (-1 : Int)))] [] (Av103, Bv103, Yv103, Kv103, Tv103) (qV Q)))))))
      refine ⟨by omega, fun z1 => ?_, fun z1 => ?_⟩
      · skip
        have f2 := XI_r_31_8 hI2
        refine ⟨by omega, c_150_31 (by omega) hI2 (show -2147483648 ≤ (A2 31 8) ∧ (A2 31 8) ≤ 2147483647 from by omega) (fun Av101 Kv101 Tv101 xI101 => ?_)⟩
        refine ⟨by omega, ?_⟩
        have f3 := XI_r_14 xI101 ((x).toNat)
        have hI4 := XI_w_31_8 (v := (Av101 14 (x).toNat)) xI101 (by omega) (by omega)
        exact q _ _ _ hI4 
      · skip
        refine ⟨by omega, c_151_31 (by omega) hI2  (fun nv102 Av102 Kv102 Tv102 xI102 xp102_0 => ?_)⟩
        replace xp102_0 : -2147483648 ≤ nv102 ∧ nv102 ≤ 2147483647 := xp102_0
        refine ⟨by omega, c_142_31 (by omega) xI102 (show -2147483648 ≤ (e + k) ∧ (e + k) ≤ 2147483647 from by omega) (show -2147483648 ≤ nv102 ∧ nv102 ≤ 2147483647 from by omega) (fun Av103 Kv103 Tv103 xI103 => ?_)⟩
        exact ih (e) ((k + (-1 : Int))) _ _ _ xI103 (show 0 ≤ e ∧ e ≤ 2620 from by omega) (show -1 ≤ (k + (-1 : Int)) ∧ (k + (-1 : Int)) ≤ 11 from by omega) (show 0 ≤ x ∧ x < 6 from by omega) (by show (k + (-1 : Int)) + 1 < _; omega)
  refine pzV_of 25 [(45, [])] [] ?_
  show (0 < d ∧ pzI (d - 1) 63 [.inr (.inr (10 : Nat)), .inl x] (A, B, Y, K, T) (fun nv1 Av1 Bv1 Yv1 Kv1 Tv1 => ((-2147483648 ≤ nv1 ∧ nv1 < 2147483648) ∧ (nv1 ≠ (0 : Int) → (0 < d ∧ pzI (d - 1) 72 [.inl x, .inl (0 : Int)] (Av1, Bv1, Yv1, Kv1, Tv1) (fun nv2 Av2 Bv2 Yv2 Kv2 Tv2 => (0 < d ∧ pzV (d - 1) 170 [.inr (.inr (32 : Nat)), .inl nv2, .inl (nv2 + (12 : Int)), .inl (0 : Int)] (Av2, Bv2, Yv2, Kv2, Tv2) (fun Av3 Bv3 Yv3 Kv3 Tv3 => (0 < d ∧ pzI (d - 1) 80 [.inr (.inr (2 : Nat)), .inl x] (Av3, Bv3, Yv3, Kv3, Tv3) (fun nv4 Av4 Bv4 Yv4 Kv4 Tv4 => pq d 148 45 [some (.inr (.inr (31 : Nat))), some (.inl x), some (.inl nv2), some (.inl (nv4 - (1 : Int)))] [] (Av4, Bv4, Yv4, Kv4, Tv4) (qV Q)))))))) ∧ (nv1 = (0 : Int) → Q Av1 Bv1 Yv1 Kv1 Tv1))))
  refine ⟨by omega, c_63_10 (by omega) hI (show -2147483648 ≤ x ∧ x ≤ 2147483647 from by omega) (fun nv1 xp1_0 => ?_)⟩
  replace xp1_0 : (nv1 = 1 ∧ 0 ≤ x ∧ x < (A 10 4) ∧ x < 6) ∨ nv1 = 0 := xp1_0
  refine ⟨by omega, fun z1 => ?_, fun z1 => ?_⟩
  · skip
    refine ⟨by omega, c_72 (by omega)  (fun nv2 xp2_0 => ?_)⟩
    replace xp2_0 : nv2 = 2560 + x * 12 + (0 : Int) := xp2_0
    refine ⟨by omega, c_170_32 (by omega) hI (show 0 ≤ nv2 ∧ nv2 ≤ (nv2 + (12 : Int)) ∧ (nv2 + (12 : Int)) ≤ 2632 from by omega) (show -2147483648 ≤ (0 : Int) ∧ (0 : Int) ≤ 2147483647 from by omega) (fun Av3 Kv3 Tv3 xI3 => ?_)⟩
    refine ⟨by omega, c_80_2 (by omega) xI3 (show -2147483648 ≤ x ∧ x ≤ 2147483647 from by omega) (fun nv4 xp4_0 xp4_1 => ?_)⟩
    replace xp4_0 : 0 ≤ nv4 ∧ nv4 ≤ 12 := xp4_0
    replace xp4_1 : nv4 = 0 ∨ (0 ≤ x ∧ x < 6) := xp4_1
    exact L45 (((nv4 - (1 : Int)) + 1) + 1).toNat (nv2) ((nv4 - (1 : Int))) _ _ _ xI3 (show 0 ≤ nv2 ∧ nv2 ≤ 2620 from by omega) (show -1 ≤ (nv4 - (1 : Int)) ∧ (nv4 - (1 : Int)) ≤ 11 from by omega) (show 0 ≤ x ∧ x < 6 from by omega) (by show (nv4 - (1 : Int)) + 1 < _; omega)
  · skip
    exact q _ _ _ hI 

set_option maxRecDepth 10000 in
set_option maxHeartbeats 400000 in
theorem c_138_31 {sz : Int} {d : Nat} {A B Y : zF} {K : Nat} {T : zT} {x : Int} {y : Int} {Q : zF → zF → zF → Nat → zT → Prop} (hd : 2 ≤ d) (hI : XI 0 sz A K T) (p1 : -2147483648 ≤ x ∧ x ≤ 2147483647) (p2 : -2147483648 ≤ y ∧ y ≤ 2147483647) (q : ∀ (A' : zF) (K' : Nat) (T' : zT), XI 0 sz A' K' T' → Q A' B Y K' T') : pzV d 138 [.inr (.inr (31 : Nat)), .inl x, .inl y] (A, B, Y, K, T) Q := by
  refine pzV_of 21 [] [125, 166] ?_
  show (0 < d ∧ pzI (d - 1) 151 [.inr (.inr (31 : Nat))] (A, B, Y, K, T) (fun nv1 Av1 Bv1 Yv1 Kv1 Tv1 => ((-2147483648 ≤ x ∧ x < 2147483648) ∧ ((x < (7 : Int) ∨ (29 : Int) < x) → (0 < d ∧ pzI (d - 1) 151 [.inr (.inr (31 : Nat))] (Av1, Bv1, Yv1, Kv1, Tv1) (fun nv72 Av72 Bv72 Yv72 Kv72 Tv72 => (0 < d ∧ pzI (d - 1) 139 [.inl x, .inl nv72, .inl nv1] (Av72, Bv72, Yv72, Kv72, Tv72) (fun nv73 Av73 Bv73 Yv73 Kv73 Tv73 => (0 < d ∧ pzV (d - 1) 150 [.inr (.inr (31 : Nat)), .inl nv73] (Av73, Bv73, Yv73, Kv73, Tv73) (fun Av74 Bv74 Yv74 Kv74 Tv74 => Q Av74 Bv74 Yv74 Kv74 Tv74))))))) ∧ (x = (7 : Int) → ((-2147483648 ≤ nv1 ∧ nv1 < 2147483648) ∧ (nv1 = (0 : Int) → (∀ cv2 : Int, -2147483648 ≤ cv2 → cv2 < 2147483648 → (0 < d ∧ pzI (d - 1) 144 [.inr (.inr (31 : Nat)), .inl cv2] (Av1, Bv1, Yv1, Kv1, Tv1) (fun nv3 Av3 Bv3 Yv3 Kv3 Tv3 => (0 < d ∧ pzV (d - 1) 150 [.inr (.inr (31 : Nat)), .inl nv1] (Av3, Bv3, Yv3, Kv3, Tv3) (fun Av4 Bv4 Yv4 Kv4 Tv4 => Q Av4 Bv4 Yv4 Kv4 Tv4)))))) ∧ (nv1 ≠ (0 : Int) → (∀ cv5 : Int, -2147483648 ≤ cv5 → cv5 < 2147483648 → (0 < d ∧ pzI (d - 1) 144 [.inr (.inr (31 : Nat)), .inl cv5] (Av1, Bv1, Yv1, Kv1, Tv1) (fun nv6 Av6 Bv6 Yv6 Kv6 Tv6 => (0 < d ∧ pzV (d - 1) 150 [.inr (.inr (31 : Nat)), .inl nv1] (Av6, Bv6, Yv6, Kv6, Tv6) (fun Av7 Bv7 Yv7 Kv7 Tv7 => Q Av7 Bv7 Yv7 Kv7 Tv7)))))))) ∧ (x = (8 : Int) → (0 < d ∧ pzI (d - 1) 151 [.inr (.inr (31 : Nat))] (Av1, Bv1, Yv1, Kv1, Tv1) (fun nv8 Av8 Bv8 Yv8 Kv8 Tv8 => (0 < d ∧ pzI (d - 1) 139 [.inl x, .inl nv8, .inl nv1] (Av8, Bv8, Yv8, Kv8, Tv8) (fun nv9 Av9 Bv9 Yv9 Kv9 Tv9 => (0 < d ∧ pzV (d - 1) 150 [.inr (.inr (31 : Nat)), .inl nv9] (Av9, Bv9, Yv9, Kv9, Tv9) (fun Av10 Bv10 Yv10 Kv10 Tv10 => Q Av10 Bv10 Yv10 Kv10 Tv10))))))) ∧ (x = (9 : Int) → (0 < d ∧ pzI (d - 1) 151 [.inr (.inr (31 : Nat))] (Av1, Bv1, Yv1, Kv1, Tv1) (fun nv11 Av11 Bv11 Yv11 Kv11 Tv11 => (0 < d ∧ pzI (d - 1) 139 [.inl x, .inl nv11, .inl nv1] (Av11, Bv11, Yv11, Kv11, Tv11) (fun nv12 Av12 Bv12 Yv12 Kv12 Tv12 => (0 < d ∧ pzV (d - 1) 150 [.inr (.inr (31 : Nat)), .inl nv12] (Av12, Bv12, Yv12, Kv12, Tv12) (fun Av13 Bv13 Yv13 Kv13 Tv13 => Q Av13 Bv13 Yv13 Kv13 Tv13))))))) ∧ (x = (10 : Int) → (0 < d ∧ pzI (d - 1) 151 [.inr (.inr (31 : Nat))] (Av1, Bv1, Yv1, Kv1, Tv1) (fun nv14 Av14 Bv14 Yv14 Kv14 Tv14 => (0 < d ∧ pzI (d - 1) 139 [.inl x, .inl nv14, .inl nv1] (Av14, Bv14, Yv14, Kv14, Tv14) (fun nv15 Av15 Bv15 Yv15 Kv15 Tv15 => (0 < d ∧ pzV (d - 1) 150 [.inr (.inr (31 : Nat)), .inl nv15] (Av15, Bv15, Yv15, Kv15, Tv15) (fun Av16 Bv16 Yv16 Kv16 Tv16 => Q Av16 Bv16 Yv16 Kv16 Tv16))))))) ∧ (x = (11 : Int) → (0 < d ∧ pzI (d - 1) 151 [.inr (.inr (31 : Nat))] (Av1, Bv1, Yv1, Kv1, Tv1) (fun nv17 Av17 Bv17 Yv17 Kv17 Tv17 => (0 < d ∧ pzI (d - 1) 139 [.inl x, .inl nv17, .inl nv1] (Av17, Bv17, Yv17, Kv17, Tv17) (fun nv18 Av18 Bv18 Yv18 Kv18 Tv18 => (0 < d ∧ pzV (d - 1) 150 [.inr (.inr (31 : Nat)), .inl nv18] (Av18, Bv18, Yv18, Kv18, Tv18) (fun Av19 Bv19 Yv19 Kv19 Tv19 => Q Av19 Bv19 Yv19 Kv19 Tv19))))))) ∧ (x = (12 : Int) → (0 < d ∧ pzI (d - 1) 151 [.inr (.inr (31 : Nat))] (Av1, Bv1, Yv1, Kv1, Tv1) (fun nv20 Av20 Bv20 Yv20 Kv20 Tv20 => (0 < d ∧ pzI (d - 1) 151 [.inr (.inr (31 : Nat))] (Av20, Bv20, Yv20, Kv20, Tv20) (fun nv21 Av21 Bv21 Yv21 Kv21 Tv21 => ((-2147483648 ≤ nv21 ∧ nv21 < 2147483648) ∧ (nv21 = (0 : Int) → (0 < d ∧ pzV (d - 1) 150 [.inr (.inr (31 : Nat)), .inl nv1] (Av21, Bv21, Yv21, Kv21, Tv21) (fun Av22 Bv22 Yv22 Kv22 Tv22 => Q Av22 Bv22 Yv22 Kv22 Tv22))) ∧ (nv21 ≠ (0 : Int) → (0 < d ∧ pzV (d - 1) 150 [.inr (.inr (31 : Nat)), .inl nv20] (Av21, Bv21, Yv21, Kv21, Tv21) (fun Av23 Bv23 Yv23 Kv23 Tv23 => Q Av23 Bv23 Yv23 Kv23 Tv23))))))))) ∧ (x = (13 : Int) → (∀ cv24 : Int, -2147483648 ≤ cv24 → cv24 < 2147483648 → (0 < d ∧ pzV (d - 1) 150 [.inr (.inr (31 : Nat)), .inl cv24] (Av1, Bv1, Yv1, Kv1, Tv1) (fun Av25 Bv25 Yv25 Kv25 Tv25 => Q Av25 Bv25 Yv25 Kv25 Tv25)))) ∧ (x = (14 : Int) → (∀ cv26 : Int, -2147483648 ≤ cv26 → cv26 < 2147483648 → (0 < d ∧ pzV (d - 1) 150 [.inr (.inr (31 : Nat)), .inl cv26] (Av1, Bv1, Yv1, Kv1, Tv1) (fun Av27 Bv27 Yv27 Kv27 Tv27 => Q Av27 Bv27 Yv27 Kv27 Tv27)))) ∧ (x = (15 : Int) → ((-2147483648 ≤ nv1 ∧ nv1 < 2147483648) ∧ (nv1 ≠ (0 : Int) → (0 < d ∧ pzV (d - 1) 150 [.inr (.inr (31 : Nat)), .inl (0 : Int)] (Av1, Bv1, Yv1, Kv1, Tv1) (fun Av28 Bv28 Yv28 Kv28 Tv28 => Q Av28 Bv28 Yv28 Kv28 Tv28))) ∧ (nv1 = (0 : Int) → (0 < d ∧ pzV (d - 1) 150 [.inr (.inr (31 : Nat)), .inl (1 : Int)] (Av1, Bv1, Yv1, Kv1, Tv1) (fun Av29 Bv29 Yv29 Kv29 Tv29 => Q Av29 Bv29 Yv29 Kv29 Tv29))))) ∧ (x = (16 : Int) → (0 < d ∧ pzI (d - 1) 151 [.inr (.inr (31 : Nat))] (Av1, Bv1, Yv1, Kv1, Tv1) (fun nv30 Av30 Bv30 Yv30 Kv30 Tv30 => (0 < d ∧ pzI (d - 1) 139 [.inl x, .inl nv30, .inl nv1] (Av30, Bv30, Yv30, Kv30, Tv30) (fun nv31 Av31 Bv31 Yv31 Kv31 Tv31 => (0 < d ∧ pzV (d - 1) 150 [.inr (.inr (31 : Nat)), .inl nv31] (Av31, Bv31, Yv31, Kv31, Tv31) (fun Av32 Bv32 Yv32 Kv32 Tv32 => Q Av32 Bv32 Yv32 Kv32 Tv32))))))) ∧ (x = (17 : Int) → (0 < d ∧ pzI (d - 1) 151 [.inr (.inr (31 : Nat))] (Av1, Bv1, Yv1, Kv1, Tv1) (fun nv33 Av33 Bv33 Yv33 Kv33 Tv33 => (0 < d ∧ pzI (d - 1) 139 [.inl x, .inl nv33, .inl nv1] (Av33, Bv33, Yv33, Kv33, Tv33) (fun nv34 Av34 Bv34 Yv34 Kv34 Tv34 => (0 < d ∧ pzV (d - 1) 150 [.inr (.inr (31 : Nat)), .inl nv34] (Av34, Bv34, Yv34, Kv34, Tv34) (fun Av35 Bv35 Yv35 Kv35 Tv35 => Q Av35 Bv35 Yv35 Kv35 Tv35))))))) ∧ (x = (18 : Int) → (0 < d ∧ pzI (d - 1) 151 [.inr (.inr (31 : Nat))] (Av1, Bv1, Yv1, Kv1, Tv1) (fun nv36 Av36 Bv36 Yv36 Kv36 Tv36 => (0 < d ∧ pzI (d - 1) 139 [.inl x, .inl nv36, .inl nv1] (Av36, Bv36, Yv36, Kv36, Tv36) (fun nv37 Av37 Bv37 Yv37 Kv37 Tv37 => (0 < d ∧ pzV (d - 1) 150 [.inr (.inr (31 : Nat)), .inl nv37] (Av37, Bv37, Yv37, Kv37, Tv37) (fun Av38 Bv38 Yv38 Kv38 Tv38 => Q Av38 Bv38 Yv38 Kv38 Tv38))))))) ∧ (x = (19 : Int) → (0 < d ∧ pzI (d - 1) 151 [.inr (.inr (31 : Nat))] (Av1, Bv1, Yv1, Kv1, Tv1) (fun nv39 Av39 Bv39 Yv39 Kv39 Tv39 => (0 < d ∧ pzI (d - 1) 139 [.inl x, .inl nv39, .inl nv1] (Av39, Bv39, Yv39, Kv39, Tv39) (fun nv40 Av40 Bv40 Yv40 Kv40 Tv40 => (0 < d ∧ pzV (d - 1) 150 [.inr (.inr (31 : Nat)), .inl nv40] (Av40, Bv40, Yv40, Kv40, Tv40) (fun Av41 Bv41 Yv41 Kv41 Tv41 => Q Av41 Bv41 Yv41 Kv41 Tv41))))))) ∧ (x = (20 : Int) → (0 < d ∧ pzI (d - 1) 151 [.inr (.inr (31 : Nat))] (Av1, Bv1, Yv1, Kv1, Tv1) (fun nv42 Av42 Bv42 Yv42 Kv42 Tv42 => (0 < d ∧ pzI (d - 1) 139 [.inl x, .inl nv42, .inl nv1] (Av42, Bv42, Yv42, Kv42, Tv42) (fun nv43 Av43 Bv43 Yv43 Kv43 Tv43 => (0 < d ∧ pzV (d - 1) 150 [.inr (.inr (31 : Nat)), .inl nv43] (Av43, Bv43, Yv43, Kv43, Tv43) (fun Av44 Bv44 Yv44 Kv44 Tv44 => Q Av44 Bv44 Yv44 Kv44 Tv44))))))) ∧ (x = (21 : Int) → (0 < d ∧ pzI (d - 1) 151 [.inr (.inr (31 : Nat))] (Av1, Bv1, Yv1, Kv1, Tv1) (fun nv45 Av45 Bv45 Yv45 Kv45 Tv45 => (0 < d ∧ pzI (d - 1) 139 [.inl x, .inl nv45, .inl nv1] (Av45, Bv45, Yv45, Kv45, Tv45) (fun nv46 Av46 Bv46 Yv46 Kv46 Tv46 => (0 < d ∧ pzV (d - 1) 150 [.inr (.inr (31 : Nat)), .inl nv46] (Av46, Bv46, Yv46, Kv46, Tv46) (fun Av47 Bv47 Yv47 Kv47 Tv47 => Q Av47 Bv47 Yv47 Kv47 Tv47))))))) ∧ (x = (22 : Int) → (0 < d ∧ pzI (d - 1) 151 [.inr (.inr (31 : Nat))] (Av1, Bv1, Yv1, Kv1, Tv1) (fun nv48 Av48 Bv48 Yv48 Kv48 Tv48 => (0 < d ∧ pzI (d - 1) 139 [.inl x, .inl nv48, .inl nv1] (Av48, Bv48, Yv48, Kv48, Tv48) (fun nv49 Av49 Bv49 Yv49 Kv49 Tv49 => (0 < d ∧ pzV (d - 1) 150 [.inr (.inr (31 : Nat)), .inl nv49] (Av49, Bv49, Yv49, Kv49, Tv49) (fun Av50 Bv50 Yv50 Kv50 Tv50 => Q Av50 Bv50 Yv50 Kv50 Tv50))))))) ∧ (x = (23 : Int) → (0 < d ∧ pzI (d - 1) 151 [.inr (.inr (31 : Nat))] (Av1, Bv1, Yv1, Kv1, Tv1) (fun nv51 Av51 Bv51 Yv51 Kv51 Tv51 => (0 < d ∧ pzI (d - 1) 139 [.inl x, .inl nv51, .inl nv1] (Av51, Bv51, Yv51, Kv51, Tv51) (fun nv52 Av52 Bv52 Yv52 Kv52 Tv52 => (0 < d ∧ pzV (d - 1) 150 [.inr (.inr (31 : Nat)), .inl nv52] (Av52, Bv52, Yv52, Kv52, Tv52) (fun Av53 Bv53 Yv53 Kv53 Tv53 => Q Av53 Bv53 Yv53 Kv53 Tv53))))))) ∧ (x = (24 : Int) → (0 < d ∧ pzI (d - 1) 151 [.inr (.inr (31 : Nat))] (Av1, Bv1, Yv1, Kv1, Tv1) (fun nv54 Av54 Bv54 Yv54 Kv54 Tv54 => (0 < d ∧ pzI (d - 1) 139 [.inl x, .inl nv54, .inl nv1] (Av54, Bv54, Yv54, Kv54, Tv54) (fun nv55 Av55 Bv55 Yv55 Kv55 Tv55 => (0 < d ∧ pzV (d - 1) 150 [.inr (.inr (31 : Nat)), .inl nv55] (Av55, Bv55, Yv55, Kv55, Tv55) (fun Av56 Bv56 Yv56 Kv56 Tv56 => Q Av56 Bv56 Yv56 Kv56 Tv56))))))) ∧ (x = (25 : Int) → (0 < d ∧ pzI (d - 1) 151 [.inr (.inr (31 : Nat))] (Av1, Bv1, Yv1, Kv1, Tv1) (fun nv57 Av57 Bv57 Yv57 Kv57 Tv57 => (0 < d ∧ pzI (d - 1) 139 [.inl x, .inl nv57, .inl nv1] (Av57, Bv57, Yv57, Kv57, Tv57) (fun nv58 Av58 Bv58 Yv58 Kv58 Tv58 => (0 < d ∧ pzV (d - 1) 150 [.inr (.inr (31 : Nat)), .inl nv58] (Av58, Bv58, Yv58, Kv58, Tv58) (fun Av59 Bv59 Yv59 Kv59 Tv59 => Q Av59 Bv59 Yv59 Kv59 Tv59))))))) ∧ (x = (26 : Int) → (0 < d ∧ pzI (d - 1) 151 [.inr (.inr (31 : Nat))] (Av1, Bv1, Yv1, Kv1, Tv1) (fun nv60 Av60 Bv60 Yv60 Kv60 Tv60 => (0 < d ∧ pzI (d - 1) 139 [.inl x, .inl nv60, .inl nv1] (Av60, Bv60, Yv60, Kv60, Tv60) (fun nv61 Av61 Bv61 Yv61 Kv61 Tv61 => (0 < d ∧ pzV (d - 1) 150 [.inr (.inr (31 : Nat)), .inl nv61] (Av61, Bv61, Yv61, Kv61, Tv61) (fun Av62 Bv62 Yv62 Kv62 Tv62 => Q Av62 Bv62 Yv62 Kv62 Tv62))))))) ∧ (x = (27 : Int) → (0 < d ∧ pzI (d - 1) 151 [.inr (.inr (31 : Nat))] (Av1, Bv1, Yv1, Kv1, Tv1) (fun nv63 Av63 Bv63 Yv63 Kv63 Tv63 => (0 < d ∧ pzI (d - 1) 139 [.inl x, .inl nv63, .inl nv1] (Av63, Bv63, Yv63, Kv63, Tv63) (fun nv64 Av64 Bv64 Yv64 Kv64 Tv64 => (0 < d ∧ pzV (d - 1) 150 [.inr (.inr (31 : Nat)), .inl nv64] (Av64, Bv64, Yv64, Kv64, Tv64) (fun Av65 Bv65 Yv65 Kv65 Tv65 => Q Av65 Bv65 Yv65 Kv65 Tv65))))))) ∧ (x = (28 : Int) → (0 < d ∧ pzI (d - 1) 151 [.inr (.inr (31 : Nat))] (Av1, Bv1, Yv1, Kv1, Tv1) (fun nv66 Av66 Bv66 Yv66 Kv66 Tv66 => ((-2147483648 ≤ x ∧ x < 2147483648) ∧ (-2147483648 ≤ (28 : Int) ∧ (28 : Int) < 2147483648) ∧ (x ≠ (28 : Int) → (0 < d ∧ pzV (d - 1) 140 [.inr (.inr (31 : Nat)), .inl nv66, .inl nv1, .inl (0 : Int)] (Av66, Bv66, Yv66, Kv66, Tv66) (fun Av67 Bv67 Yv67 Kv67 Tv67 => Q Av67 Bv67 Yv67 Kv67 Tv67))) ∧ (x = (28 : Int) → (0 < d ∧ pzV (d - 1) 140 [.inr (.inr (31 : Nat)), .inl nv66, .inl nv1, .inl (1 : Int)] (Av66, Bv66, Yv66, Kv66, Tv66) (fun Av68 Bv68 Yv68 Kv68 Tv68 => Q Av68 Bv68 Yv68 Kv68 Tv68))))))) ∧ (x = (29 : Int) → (0 < d ∧ pzI (d - 1) 151 [.inr (.inr (31 : Nat))] (Av1, Bv1, Yv1, Kv1, Tv1) (fun nv69 Av69 Bv69 Yv69 Kv69 Tv69 => ((-2147483648 ≤ x ∧ x < 2147483648) ∧ (-2147483648 ≤ (28 : Int) ∧ (28 : Int) < 2147483648) ∧ (x ≠ (28 : Int) → (0 < d ∧ pzV (d - 1) 140 [.inr (.inr (31 : Nat)), .inl nv69, .inl nv1, .inl (0 : Int)] (Av69, Bv69, Yv69, Kv69, Tv69) (fun Av70 Bv70 Yv70 Kv70 Tv70 => Q Av70 Bv70 Yv70 Kv70 Tv70))) ∧ (x = (28 : Int) → (0 < d ∧ pzV (d - 1) 140 [.inr (.inr (31 : Nat)), .inl nv69, .inl nv1, .inl (1 : Int)] (Av69, Bv69, Yv69, Kv69, Tv69) (fun Av71 Bv71 Yv71 Kv71 Tv71 => Q Av71 Bv71 Yv71 Kv71 Tv71))))))) ∧ True)))
  refine ⟨by omega, c_151_31 (by omega) hI  (fun nv1 Av1 Kv1 Tv1 xI1 xp1_0 => ?_)⟩
  replace xp1_0 : -2147483648 ≤ nv1 ∧ nv1 ≤ 2147483647 := xp1_0
  refine ⟨by omega, fun z1 => ?_, fun z1 => ?_, fun z1 => ?_, fun z1 => ?_, fun z1 => ?_, fun z1 => ?_, fun z1 => ?_, fun z1 => ?_, fun z1 => ?_, fun z1 => ?_, fun z1 => ?_, fun z1 => ?_, fun z1 => ?_, fun z1 => ?_, fun z1 => ?_, fun z1 => ?_, fun z1 => ?_, fun z1 => ?_, fun z1 => ?_, fun z1 => ?_, fun z1 => ?_, fun z1 => ?_, fun z1 => ?_, fun z1 => ?_, trivial⟩
  · skip
    refine ⟨by omega, c_151_31 (by omega) xI1  (fun nv72 Av72 Kv72 Tv72 xI72 xp72_0 => ?_)⟩
    replace xp72_0 : -2147483648 ≤ nv72 ∧ nv72 ≤ 2147483647 := xp72_0
    refine ⟨by omega, c_139 (by omega) (show -2147483648 ≤ x ∧ x ≤ 2147483647 from by omega) (show -2147483648 ≤ nv72 ∧ nv72 ≤ 2147483647 from by omega) (show -2147483648 ≤ nv1 ∧ nv1 ≤ 2147483647 from by omega) (fun nv73 xp73_0 => ?_)⟩
    replace xp73_0 : -2147483648 ≤ nv73 ∧ nv73 ≤ 2147483647 := xp73_0
    refine ⟨by omega, c_150_31 (by omega) xI72 (show -2147483648 ≤ nv73 ∧ nv73 ≤ 2147483647 from by omega) (fun Av74 Kv74 Tv74 xI74 => ?_)⟩
    exact q _ _ _ xI74 
  · skip
    refine ⟨by omega, fun z2 => ?_, fun z2 => ?_⟩
    · skip
      intro cv2 w3a w3b
      refine ⟨by omega, c_144_31 (by omega) xI1 (show -2147483648 ≤ cv2 ∧ cv2 ≤ 2147483647 from by omega) (fun nv3 Av3 Kv3 Tv3 xI3 xp3_0 => ?_)⟩
      replace xp3_0 : nv3 = 0 ∨ nv3 = 1 := xp3_0
      refine ⟨by omega, c_150_31 (by omega) xI3 (show -2147483648 ≤ nv1 ∧ nv1 ≤ 2147483647 from by omega) (fun Av4 Kv4 Tv4 xI4 => ?_)⟩
      exact q _ _ _ xI4 
    · skip
      intro cv5 w4a w4b
      refine ⟨by omega, c_144_31 (by omega) xI1 (show -2147483648 ≤ cv5 ∧ cv5 ≤ 2147483647 from by omega) (fun nv6 Av6 Kv6 Tv6 xI6 xp6_0 => ?_)⟩
      replace xp6_0 : nv6 = 0 ∨ nv6 = 1 := xp6_0
      refine ⟨by omega, c_150_31 (by omega) xI6 (show -2147483648 ≤ nv1 ∧ nv1 ≤ 2147483647 from by omega) (fun Av7 Kv7 Tv7 xI7 => ?_)⟩
      exact q _ _ _ xI7 
  · skip
    refine ⟨by omega, c_151_31 (by omega) xI1  (fun nv8 Av8 Kv8 Tv8 xI8 xp8_0 => ?_)⟩
    replace xp8_0 : -2147483648 ≤ nv8 ∧ nv8 ≤ 2147483647 := xp8_0
    refine ⟨by omega, c_139 (by omega) (show -2147483648 ≤ x ∧ x ≤ 2147483647 from by omega) (show -2147483648 ≤ nv8 ∧ nv8 ≤ 2147483647 from by omega) (show -2147483648 ≤ nv1 ∧ nv1 ≤ 2147483647 from by omega) (fun nv9 xp9_0 => ?_)⟩
    replace xp9_0 : -2147483648 ≤ nv9 ∧ nv9 ≤ 2147483647 := xp9_0
    refine ⟨by omega, c_150_31 (by omega) xI8 (show -2147483648 ≤ nv9 ∧ nv9 ≤ 2147483647 from by omega) (fun Av10 Kv10 Tv10 xI10 => ?_)⟩
    exact q _ _ _ xI10 
  · skip
    refine ⟨by omega, c_151_31 (by omega) xI1  (fun nv11 Av11 Kv11 Tv11 xI11 xp11_0 => ?_)⟩
    replace xp11_0 : -2147483648 ≤ nv11 ∧ nv11 ≤ 2147483647 := xp11_0
    refine ⟨by omega, c_139 (by omega) (show -2147483648 ≤ x ∧ x ≤ 2147483647 from by omega) (show -2147483648 ≤ nv11 ∧ nv11 ≤ 2147483647 from by omega) (show -2147483648 ≤ nv1 ∧ nv1 ≤ 2147483647 from by omega) (fun nv12 xp12_0 => ?_)⟩
    replace xp12_0 : -2147483648 ≤ nv12 ∧ nv12 ≤ 2147483647 := xp12_0
    refine ⟨by omega, c_150_31 (by omega) xI11 (show -2147483648 ≤ nv12 ∧ nv12 ≤ 2147483647 from by omega) (fun Av13 Kv13 Tv13 xI13 => ?_)⟩
    exact q _ _ _ xI13 
  · skip
    refine ⟨by omega, c_151_31 (by omega) xI1  (fun nv14 Av14 Kv14 Tv14 xI14 xp14_0 => ?_)⟩
    replace xp14_0 : -2147483648 ≤ nv14 ∧ nv14 ≤ 2147483647 := xp14_0
    refine ⟨by omega, c_139 (by omega) (show -2147483648 ≤ x ∧ x ≤ 2147483647 from by omega) (show -2147483648 ≤ nv14 ∧ nv14 ≤ 2147483647 from by omega) (show -2147483648 ≤ nv1 ∧ nv1 ≤ 2147483647 from by omega) (fun nv15 xp15_0 => ?_)⟩
    replace xp15_0 : -2147483648 ≤ nv15 ∧ nv15 ≤ 2147483647 := xp15_0
    refine ⟨by omega, c_150_31 (by omega) xI14 (show -2147483648 ≤ nv15 ∧ nv15 ≤ 2147483647 from by omega) (fun Av16 Kv16 Tv16 xI16 => ?_)⟩
    exact q _ _ _ xI16 
  · skip
    refine ⟨by omega, c_151_31 (by omega) xI1  (fun nv17 Av17 Kv17 Tv17 xI17 xp17_0 => ?_)⟩
    replace xp17_0 : -2147483648 ≤ nv17 ∧ nv17 ≤ 2147483647 := xp17_0
    refine ⟨by omega, c_139 (by omega) (show -2147483648 ≤ x ∧ x ≤ 2147483647 from by omega) (show -2147483648 ≤ nv17 ∧ nv17 ≤ 2147483647 from by omega) (show -2147483648 ≤ nv1 ∧ nv1 ≤ 2147483647 from by omega) (fun nv18 xp18_0 => ?_)⟩
    replace xp18_0 : -2147483648 ≤ nv18 ∧ nv18 ≤ 2147483647 := xp18_0
    refine ⟨by omega, c_150_31 (by omega) xI17 (show -2147483648 ≤ nv18 ∧ nv18 ≤ 2147483647 from by omega) (fun Av19 Kv19 Tv19 xI19 => ?_)⟩
    exact q _ _ _ xI19 
  · skip
    refine ⟨by omega, c_151_31 (by omega) xI1  (fun nv20 Av20 Kv20 Tv20 xI20 xp20_0 => ?_)⟩
    replace xp20_0 : -2147483648 ≤ nv20 ∧ nv20 ≤ 2147483647 := xp20_0
    refine ⟨by omega, c_151_31 (by omega) xI20  (fun nv21 Av21 Kv21 Tv21 xI21 xp21_0 => ?_)⟩
    replace xp21_0 : -2147483648 ≤ nv21 ∧ nv21 ≤ 2147483647 := xp21_0
    refine ⟨by omega, fun z5 => ?_, fun z5 => ?_⟩
    · skip
      refine ⟨by omega, c_150_31 (by omega) xI21 (show -2147483648 ≤ nv1 ∧ nv1 ≤ 2147483647 from by omega) (fun Av22 Kv22 Tv22 xI22 => ?_)⟩
      exact q _ _ _ xI22 
    · skip
      refine ⟨by omega, c_150_31 (by omega) xI21 (show -2147483648 ≤ nv20 ∧ nv20 ≤ 2147483647 from by omega) (fun Av23 Kv23 Tv23 xI23 => ?_)⟩
      exact q _ _ _ xI23 
  · skip
    intro cv24 w6a w6b
    refine ⟨by omega, c_150_31 (by omega) xI1 (show -2147483648 ≤ cv24 ∧ cv24 ≤ 2147483647 from by omega) (fun Av25 Kv25 Tv25 xI25 => ?_)⟩
    exact q _ _ _ xI25 
  · skip
    intro cv26 w7a w7b
    refine ⟨by omega, c_150_31 (by omega) xI1 (show -2147483648 ≤ cv26 ∧ cv26 ≤ 2147483647 from by omega) (fun Av27 Kv27 Tv27 xI27 => ?_)⟩
    exact q _ _ _ xI27 
  · skip
    refine ⟨by omega, fun z8 => ?_, fun z8 => ?_⟩
    · skip
      refine ⟨by omega, c_150_31 (by omega) xI1 (show -2147483648 ≤ (0 : Int) ∧ (0 : Int) ≤ 2147483647 from by omega) (fun Av28 Kv28 Tv28 xI28 => ?_)⟩
      exact q _ _ _ xI28 
    · skip
      refine ⟨by omega, c_150_31 (by omega) xI1 (show -2147483648 ≤ (1 : Int) ∧ (1 : Int) ≤ 2147483647 from by omega) (fun Av29 Kv29 Tv29 xI29 => ?_)⟩
      exact q _ _ _ xI29 
  · skip
    refine ⟨by omega, c_151_31 (by omega) xI1  (fun nv30 Av30 Kv30 Tv30 xI30 xp30_0 => ?_)⟩
    replace xp30_0 : -2147483648 ≤ nv30 ∧ nv30 ≤ 2147483647 := xp30_0
    refine ⟨by omega, c_139 (by omega) (show -2147483648 ≤ x ∧ x ≤ 2147483647 from by omega) (show -2147483648 ≤ nv30 ∧ nv30 ≤ 2147483647 from by omega) (show -2147483648 ≤ nv1 ∧ nv1 ≤ 2147483647 from by omega) (fun nv31 xp31_0 => ?_)⟩
    replace xp31_0 : -2147483648 ≤ nv31 ∧ nv31 ≤ 2147483647 := xp31_0
    refine ⟨by omega, c_150_31 (by omega) xI30 (show -2147483648 ≤ nv31 ∧ nv31 ≤ 2147483647 from by omega) (fun Av32 Kv32 Tv32 xI32 => ?_)⟩
    exact q _ _ _ xI32 
  · skip
    refine ⟨by omega, c_151_31 (by omega) xI1  (fun nv33 Av33 Kv33 Tv33 xI33 xp33_0 => ?_)⟩
    replace xp33_0 : -2147483648 ≤ nv33 ∧ nv33 ≤ 2147483647 := xp33_0
    refine ⟨by omega, c_139 (by omega) (show -2147483648 ≤ x ∧ x ≤ 2147483647 from by omega) (show -2147483648 ≤ nv33 ∧ nv33 ≤ 2147483647 from by omega) (show -2147483648 ≤ nv1 ∧ nv1 ≤ 2147483647 from by omega) (fun nv34 xp34_0 => ?_)⟩
    replace xp34_0 : -2147483648 ≤ nv34 ∧ nv34 ≤ 2147483647 := xp34_0
    refine ⟨by omega, c_150_31 (by omega) xI33 (show -2147483648 ≤ nv34 ∧ nv34 ≤ 2147483647 from by omega) (fun Av35 Kv35 Tv35 xI35 => ?_)⟩
    exact q _ _ _ xI35 
  · skip
    refine ⟨by omega, c_151_31 (by omega) xI1  (fun nv36 Av36 Kv36 Tv36 xI36 xp36_0 => ?_)⟩
    replace xp36_0 : -2147483648 ≤ nv36 ∧ nv36 ≤ 2147483647 := xp36_0
    refine ⟨by omega, c_139 (by omega) (show -2147483648 ≤ x ∧ x ≤ 2147483647 from by omega) (show -2147483648 ≤ nv36 ∧ nv36 ≤ 2147483647 from by omega) (show -2147483648 ≤ nv1 ∧ nv1 ≤ 2147483647 from by omega) (fun nv37 xp37_0 => ?_)⟩
    replace xp37_0 : -2147483648 ≤ nv37 ∧ nv37 ≤ 2147483647 := xp37_0
    refine ⟨by omega, c_150_31 (by omega) xI36 (show -2147483648 ≤ nv37 ∧ nv37 ≤ 2147483647 from by omega) (fun Av38 Kv38 Tv38 xI38 => ?_)⟩
    exact q _ _ _ xI38 
  · skip
    refine ⟨by omega, c_151_31 (by omega) xI1  (fun nv39 Av39 Kv39 Tv39 xI39 xp39_0 => ?_)⟩
    replace xp39_0 : -2147483648 ≤ nv39 ∧ nv39 ≤ 2147483647 := xp39_0
    refine ⟨by omega, c_139 (by omega) (show -2147483648 ≤ x ∧ x ≤ 2147483647 from by omega) (show -2147483648 ≤ nv39 ∧ nv39 ≤ 2147483647 from by omega) (show -2147483648 ≤ nv1 ∧ nv1 ≤ 2147483647 from by omega) (fun nv40 xp40_0 => ?_)⟩
    replace xp40_0 : -2147483648 ≤ nv40 ∧ nv40 ≤ 2147483647 := xp40_0
    refine ⟨by omega, c_150_31 (by omega) xI39 (show -2147483648 ≤ nv40 ∧ nv40 ≤ 2147483647 from by omega) (fun Av41 Kv41 Tv41 xI41 => ?_)⟩
    exact q _ _ _ xI41 
  · skip
    refine ⟨by omega, c_151_31 (by omega) xI1  (fun nv42 Av42 Kv42 Tv42 xI42 xp42_0 => ?_)⟩
    replace xp42_0 : -2147483648 ≤ nv42 ∧ nv42 ≤ 2147483647 := xp42_0
    refine ⟨by omega, c_139 (by omega) (show -2147483648 ≤ x ∧ x ≤ 2147483647 from by omega) (show -2147483648 ≤ nv42 ∧ nv42 ≤ 2147483647 from by omega) (show -2147483648 ≤ nv1 ∧ nv1 ≤ 2147483647 from by omega) (fun nv43 xp43_0 => ?_)⟩
    replace xp43_0 : -2147483648 ≤ nv43 ∧ nv43 ≤ 2147483647 := xp43_0
    refine ⟨by omega, c_150_31 (by omega) xI42 (show -2147483648 ≤ nv43 ∧ nv43 ≤ 2147483647 from by omega) (fun Av44 Kv44 Tv44 xI44 => ?_)⟩
    exact q _ _ _ xI44 
  · skip
    refine ⟨by omega, c_151_31 (by omega) xI1  (fun nv45 Av45 Kv45 Tv45 xI45 xp45_0 => ?_)⟩
    replace xp45_0 : -2147483648 ≤ nv45 ∧ nv45 ≤ 2147483647 := xp45_0
    refine ⟨by omega, c_139 (by omega) (show -2147483648 ≤ x ∧ x ≤ 2147483647 from by omega) (show -2147483648 ≤ nv45 ∧ nv45 ≤ 2147483647 from by omega) (show -2147483648 ≤ nv1 ∧ nv1 ≤ 2147483647 from by omega) (fun nv46 xp46_0 => ?_)⟩
    replace xp46_0 : -2147483648 ≤ nv46 ∧ nv46 ≤ 2147483647 := xp46_0
    refine ⟨by omega, c_150_31 (by omega) xI45 (show -2147483648 ≤ nv46 ∧ nv46 ≤ 2147483647 from by omega) (fun Av47 Kv47 Tv47 xI47 => ?_)⟩
    exact q _ _ _ xI47 
  · skip
    refine ⟨by omega, c_151_31 (by omega) xI1  (fun nv48 Av48 Kv48 Tv48 xI48 xp48_0 => ?_)⟩
    replace xp48_0 : -2147483648 ≤ nv48 ∧ nv48 ≤ 2147483647 := xp48_0
    refine ⟨by omega, c_139 (by omega) (show -2147483648 ≤ x ∧ x ≤ 2147483647 from by omega) (show -2147483648 ≤ nv48 ∧ nv48 ≤ 2147483647 from by omega) (show -2147483648 ≤ nv1 ∧ nv1 ≤ 2147483647 from by omega) (fun nv49 xp49_0 => ?_)⟩
    replace xp49_0 : -2147483648 ≤ nv49 ∧ nv49 ≤ 2147483647 := xp49_0
    refine ⟨by omega, c_150_31 (by omega) xI48 (show -2147483648 ≤ nv49 ∧ nv49 ≤ 2147483647 from by omega) (fun Av50 Kv50 Tv50 xI50 => ?_)⟩
    exact q _ _ _ xI50 
  · skip
    refine ⟨by omega, c_151_31 (by omega) xI1  (fun nv51 Av51 Kv51 Tv51 xI51 xp51_0 => ?_)⟩
    replace xp51_0 : -2147483648 ≤ nv51 ∧ nv51 ≤ 2147483647 := xp51_0
    refine ⟨by omega, c_139 (by omega) (show -2147483648 ≤ x ∧ x ≤ 2147483647 from by omega) (show -2147483648 ≤ nv51 ∧ nv51 ≤ 2147483647 from by omega) (show -2147483648 ≤ nv1 ∧ nv1 ≤ 2147483647 from by omega) (fun nv52 xp52_0 => ?_)⟩
    replace xp52_0 : -2147483648 ≤ nv52 ∧ nv52 ≤ 2147483647 := xp52_0
    refine ⟨by omega, c_150_31 (by omega) xI51 (show -2147483648 ≤ nv52 ∧ nv52 ≤ 2147483647 from by omega) (fun Av53 Kv53 Tv53 xI53 => ?_)⟩
    exact q _ _ _ xI53 
  · skip
    refine ⟨by omega, c_151_31 (by omega) xI1  (fun nv54 Av54 Kv54 Tv54 xI54 xp54_0 => ?_)⟩
    replace xp54_0 : -2147483648 ≤ nv54 ∧ nv54 ≤ 2147483647 := xp54_0
    refine ⟨by omega, c_139 (by omega) (show -2147483648 ≤ x ∧ x ≤ 2147483647 from by omega) (show -2147483648 ≤ nv54 ∧ nv54 ≤ 2147483647 from by omega) (show -2147483648 ≤ nv1 ∧ nv1 ≤ 2147483647 from by omega) (fun nv55 xp55_0 => ?_)⟩
    replace xp55_0 : -2147483648 ≤ nv55 ∧ nv55 ≤ 2147483647 := xp55_0
    refine ⟨by omega, c_150_31 (by omega) xI54 (show -2147483648 ≤ nv55 ∧ nv55 ≤ 2147483647 from by omega) (fun Av56 Kv56 Tv56 xI56 => ?_)⟩
    exact q _ _ _ xI56 
  · skip
    refine ⟨by omega, c_151_31 (by omega) xI1  (fun nv57 Av57 Kv57 Tv57 xI57 xp57_0 => ?_)⟩
    replace xp57_0 : -2147483648 ≤ nv57 ∧ nv57 ≤ 2147483647 := xp57_0
    refine ⟨by omega, c_139 (by omega) (show -2147483648 ≤ x ∧ x ≤ 2147483647 from by omega) (show -2147483648 ≤ nv57 ∧ nv57 ≤ 2147483647 from by omega) (show -2147483648 ≤ nv1 ∧ nv1 ≤ 2147483647 from by omega) (fun nv58 xp58_0 => ?_)⟩
    replace xp58_0 : -2147483648 ≤ nv58 ∧ nv58 ≤ 2147483647 := xp58_0
    refine ⟨by omega, c_150_31 (by omega) xI57 (show -2147483648 ≤ nv58 ∧ nv58 ≤ 2147483647 from by omega) (fun Av59 Kv59 Tv59 xI59 => ?_)⟩
    exact q _ _ _ xI59 
  · skip
    refine ⟨by omega, c_151_31 (by omega) xI1  (fun nv60 Av60 Kv60 Tv60 xI60 xp60_0 => ?_)⟩
    replace xp60_0 : -2147483648 ≤ nv60 ∧ nv60 ≤ 2147483647 := xp60_0
    refine ⟨by omega, c_139 (by omega) (show -2147483648 ≤ x ∧ x ≤ 2147483647 from by omega) (show -2147483648 ≤ nv60 ∧ nv60 ≤ 2147483647 from by omega) (show -2147483648 ≤ nv1 ∧ nv1 ≤ 2147483647 from by omega) (fun nv61 xp61_0 => ?_)⟩
    replace xp61_0 : -2147483648 ≤ nv61 ∧ nv61 ≤ 2147483647 := xp61_0
    refine ⟨by omega, c_150_31 (by omega) xI60 (show -2147483648 ≤ nv61 ∧ nv61 ≤ 2147483647 from by omega) (fun Av62 Kv62 Tv62 xI62 => ?_)⟩
    exact q _ _ _ xI62 
  · skip
    refine ⟨by omega, c_151_31 (by omega) xI1  (fun nv63 Av63 Kv63 Tv63 xI63 xp63_0 => ?_)⟩
    replace xp63_0 : -2147483648 ≤ nv63 ∧ nv63 ≤ 2147483647 := xp63_0
    refine ⟨by omega, c_139 (by omega) (show -2147483648 ≤ x ∧ x ≤ 2147483647 from by omega) (show -2147483648 ≤ nv63 ∧ nv63 ≤ 2147483647 from by omega) (show -2147483648 ≤ nv1 ∧ nv1 ≤ 2147483647 from by omega) (fun nv64 xp64_0 => ?_)⟩
    replace xp64_0 : -2147483648 ≤ nv64 ∧ nv64 ≤ 2147483647 := xp64_0
    refine ⟨by omega, c_150_31 (by omega) xI63 (show -2147483648 ≤ nv64 ∧ nv64 ≤ 2147483647 from by omega) (fun Av65 Kv65 Tv65 xI65 => ?_)⟩
    exact q _ _ _ xI65 
  · skip
    refine ⟨by omega, c_151_31 (by omega) xI1  (fun nv66 Av66 Kv66 Tv66 xI66 xp66_0 => ?_)⟩
    replace xp66_0 : -2147483648 ≤ nv66 ∧ nv66 ≤ 2147483647 := xp66_0
    refine ⟨by omega, by omega, fun z9 => ?_, fun z9 => ?_⟩
    · skip
      refine ⟨by omega, c_140_31 (by omega) xI66 (show -2147483648 ≤ nv66 ∧ nv66 ≤ 2147483647 from by omega) (show -2147483648 ≤ nv1 ∧ nv1 ≤ 2147483647 from by omega) (show (0 : Int) = 0 ∨ (0 : Int) = 1 from by omega) (fun Av67 Kv67 Tv67 xI67 => ?_)⟩
      exact q _ _ _ xI67 
    · skip
      refine ⟨by omega, c_140_31 (by omega) xI66 (show -2147483648 ≤ nv66 ∧ nv66 ≤ 2147483647 from by omega) (show -2147483648 ≤ nv1 ∧ nv1 ≤ 2147483647 from by omega) (show (1 : Int) = 0 ∨ (1 : Int) = 1 from by omega) (fun Av68 Kv68 Tv68 xI68 => ?_)⟩
      exact q _ _ _ xI68 
  · skip
    refine ⟨by omega, c_151_31 (by omega) xI1  (fun nv69 Av69 Kv69 Tv69 xI69 xp69_0 => ?_)⟩
    replace xp69_0 : -2147483648 ≤ nv69 ∧ nv69 ≤ 2147483647 := xp69_0
    refine ⟨by omega, by omega, fun z10 => ?_, fun z10 => ?_⟩
    · skip
      refine ⟨by omega, c_140_31 (by omega) xI69 (show -2147483648 ≤ nv69 ∧ nv69 ≤ 2147483647 from by omega) (show -2147483648 ≤ nv1 ∧ nv1 ≤ 2147483647 from by omega) (show (0 : Int) = 0 ∨ (0 : Int) = 1 from by omega) (fun Av70 Kv70 Tv70 xI70 => ?_)⟩
      exact q _ _ _ xI70 
    · skip
      refine ⟨by omega, c_140_31 (by omega) xI69 (show -2147483648 ≤ nv69 ∧ nv69 ≤ 2147483647 from by omega) (show -2147483648 ≤ nv1 ∧ nv1 ≤ 2147483647 from by omega) (show (1 : Int) = 0 ∨ (1 : Int) = 1 from by omega) (fun Av71 Kv71 Tv71 xI71 => ?_)⟩
      exact q _ _ _ xI71 

set_option maxRecDepth 10000 in
set_option maxHeartbeats 400000 in
theorem c_137_31 {sz : Int} {d : Nat} {A B Y : zF} {K : Nat} {T : zT} {x : Int} {y : Int} {Q : zF → zF → zF → Nat → zT → Prop} (hd : 5 ≤ d) (hI : XI 0 sz A K T) (p1 : -2147483648 ≤ x ∧ x ≤ 2147483647) (p2 : -2147483648 ≤ y ∧ y ≤ 2147483647) (q : ∀ (A' : zF) (K' : Nat) (T' : zT), XI 0 sz A' K' T' → Q A' B Y K' T') : pzV d 137 [.inr (.inr (31 : Nat)), .inl x, .inl y] (A, B, Y, K, T) Q := by
  refine pzV_of 11 [] [] ?_
  show ((-2147483648 ≤ x ∧ x < 2147483648) ∧ ((x < (1 : Int) ∨ (11 : Int) < x) → (0 < d ∧ pzV (d - 1) 138 [.inr (.inr (31 : Nat)), .inl x, .inl y] (A, B, Y, K, T) (fun Av13 Bv13 Yv13 Kv13 Tv13 => Q Av13 Bv13 Yv13 Kv13 Tv13))) ∧ (x = (1 : Int) → (0 < d ∧ pzV (d - 1) 143 [.inr (.inr (31 : Nat))] (A, B, Y, K, T) (fun Av1 Bv1 Yv1 Kv1 Tv1 => Q Av1 Bv1 Yv1 Kv1 Tv1))) ∧ (x = (2 : Int) → (0 < d ∧ pzV (d - 1) 150 [.inr (.inr (31 : Nat)), .inl y] (A, B, Y, K, T) (fun Av2 Bv2 Yv2 Kv2 Tv2 => Q Av2 Bv2 Yv2 Kv2 Tv2))) ∧ (x = (3 : Int) → (0 < d ∧ pzI (d - 1) 141 [.inr (.inr (31 : Nat)), .inl y] (A, B, Y, K, T) (fun nv3 Av3 Bv3 Yv3 Kv3 Tv3 => (0 < d ∧ pzV (d - 1) 150 [.inr (.inr (31 : Nat)), .inl nv3] (Av3, Bv3, Yv3, Kv3, Tv3) (fun Av4 Bv4 Yv4 Kv4 Tv4 => Q Av4 Bv4 Yv4 Kv4 Tv4))))) ∧ (x = (4 : Int) → (0 < d ∧ pzI (d - 1) 151 [.inr (.inr (31 : Nat))] (A, B, Y, K, T) (fun nv5 Av5 Bv5 Yv5 Kv5 Tv5 => (0 < d ∧ pzV (d - 1) 142 [.inr (.inr (31 : Nat)), .inl y, .inl nv5] (Av5, Bv5, Yv5, Kv5, Tv5) (fun Av6 Bv6 Yv6 Kv6 Tv6 => Q Av6 Bv6 Yv6 Kv6 Tv6))))) ∧ (x = (5 : Int) → (0 < d ∧ pzV (d - 1) 146 [.inr (.inr (31 : Nat)), .inl y] (A, B, Y, K, T) (fun Av7 Bv7 Yv7 Kv7 Tv7 => Q Av7 Bv7 Yv7 Kv7 Tv7))) ∧ (x = (6 : Int) → (0 < d ∧ pzV (d - 1) 147 [.inr (.inr (31 : Nat)), .inl y] (A, B, Y, K, T) (fun Av8 Bv8 Yv8 Kv8 Tv8 => Q Av8 Bv8 Yv8 Kv8 Tv8))) ∧ (x = (7 : Int) → (0 < d ∧ pzV (d - 1) 138 [.inr (.inr (31 : Nat)), .inl x, .inl y] (A, B, Y, K, T) (fun Av9 Bv9 Yv9 Kv9 Tv9 => Q Av9 Bv9 Yv9 Kv9 Tv9))) ∧ (x = (8 : Int) → (0 < d ∧ pzI (d - 1) 151 [.inr (.inr (31 : Nat))] (A, B, Y, K, T) (fun nv10 Av10 Bv10 Yv10 Kv10 Tv10 => ((-2147483648 ≤ nv10 ∧ nv10 < 2147483648) ∧ (nv10 ≠ (0 : Int) → Q (zu Av10 31 8 (Av10 31 8)) Bv10 Yv10 Kv10 Tv10) ∧ (nv10 = (0 : Int) → Q (zu Av10 31 8 y) Bv10 Yv10 Kv10 Tv10))))) ∧ (x = (9 : Int) → Q (zu A 31 8 y) B Y K T) ∧ (x = (10 : Int) → (0 < d ∧ pzV (d - 1) 148 [.inr (.inr (31 : Nat)), .inl y] (A, B, Y, K, T) (fun Av11 Bv11 Yv11 Kv11 Tv11 => Q Av11 Bv11 Yv11 Kv11 Tv11))) ∧ (x = (11 : Int) → (0 < d ∧ pzV (d - 1) 149 [.inr (.inr (31 : Nat))] (A, B, Y, K, T) (fun Av12 Bv12 Yv12 Kv12 Tv12 => Q Av12 Bv12 Yv12 Kv12 Tv12))) ∧ True)
  refine ⟨by omega, fun z1 => ?_, fun z1 => ?_, fun z1 => ?_, fun z1 => ?_, fun z1 => ?_, fun z1 => ?_, fun z1 => ?_, fun z1 => ?_, fun z1 => ?_, fun z1 => ?_, fun z1 => ?_, fun z1 => ?_, trivial⟩
  · skip
    refine ⟨by omega, c_138_31 (by omega) hI (show -2147483648 ≤ x ∧ x ≤ 2147483647 from by omega) (show -2147483648 ≤ y ∧ y ≤ 2147483647 from by omega) (fun Av13 Kv13 Tv13 xI13 => ?_)⟩
    exact q _ _ _ xI13 
  · skip
    refine ⟨by omega, c_143_31 (by omega) hI  (fun Av1 Kv1 Tv1 xI1 => ?_)⟩
    exact q _ _ _ xI1 
  · skip
    refine ⟨by omega, c_150_31 (by omega) hI (show -2147483648 ≤ y ∧ y ≤ 2147483647 from by omega) (fun Av2 Kv2 Tv2 xI2 => ?_)⟩
    exact q _ _ _ xI2 
  · skip
    refine ⟨by omega, c_141_31 (by omega) hI (show -2147483648 ≤ y ∧ y ≤ 2147483647 from by omega) (fun nv3 xp3_0 => ?_)⟩
    replace xp3_0 : -2147483648 ≤ nv3 ∧ nv3 ≤ 2147483647 := xp3_0
    refine ⟨by omega, c_150_31 (by omega) hI (show -2147483648 ≤ nv3 ∧ nv3 ≤ 2147483647 from by omega) (fun Av4 Kv4 Tv4 xI4 => ?_)⟩
    exact q _ _ _ xI4 
  · skip
    refine ⟨by omega, c_151_31 (by omega) hI  (fun nv5 Av5 Kv5 Tv5 xI5 xp5_0 => ?_)⟩
    replace xp5_0 : -2147483648 ≤ nv5 ∧ nv5 ≤ 2147483647 := xp5_0
    refine ⟨by omega, c_142_31 (by omega) xI5 (show -2147483648 ≤ y ∧ y ≤ 2147483647 from by omega) (show -2147483648 ≤ nv5 ∧ nv5 ≤ 2147483647 from by omega) (fun Av6 Kv6 Tv6 xI6 => ?_)⟩
    exact q _ _ _ xI6 
  · skip
    refine ⟨by omega, c_146_31 (by omega) hI (show -2147483648 ≤ y ∧ y ≤ 2147483647 from by omega) (fun Av7 Kv7 Tv7 xI7 => ?_)⟩
    exact q _ _ _ xI7 
  · skip
    refine ⟨by omega, c_147_31 (by omega) hI (show -2147483648 ≤ y ∧ y ≤ 2147483647 from by omega) (fun Av8 Kv8 Tv8 xI8 => ?_)⟩
    exact q _ _ _ xI8 
  · skip
    refine ⟨by omega, c_138_31 (by omega) hI (show -2147483648 ≤ x ∧ x ≤ 2147483647 from by omega) (show -2147483648 ≤ y ∧ y ≤ 2147483647 from by omega) (fun Av9 Kv9 Tv9 xI9 => ?_)⟩
    exact q _ _ _ xI9 
  · skip
    refine ⟨by omega, c_151_31 (by omega) hI  (fun nv10 Av10 Kv10 Tv10 xI10 xp10_0 => ?_)⟩
    replace xp10_0 : -2147483648 ≤ nv10 ∧ nv10 ≤ 2147483647 := xp10_0
    refine ⟨by omega, fun z2 => ?_, fun z2 => ?_⟩
    · skip
      have f3 := XI_r_31_8 xI10
      have hI4 := XI_w_31_8 (v := (Av10 31 8)) xI10 (by omega) (by omega)
      exact q _ _ _ hI4 
    · skip
      have hI5 := XI_w_31_8 (v := y) xI10 (by omega) (by omega)
      exact q _ _ _ hI5 
  · skip
    have hI6 := XI_w_31_8 (v := y) hI (by omega) (by omega)
    exact q _ _ _ hI6 
  · skip
    refine ⟨by omega, c_148_31 (by omega) hI (show -2147483648 ≤ y ∧ y ≤ 2147483647 from by omega) (fun Av11 Kv11 Tv11 xI11 => ?_)⟩
    exact q _ _ _ xI11 
  · skip
    refine ⟨by omega, c_149_31 (by omega) hI  (fun Av12 Kv12 Tv12 xI12 => ?_)⟩
    exact q _ _ _ xI12 

set_option maxRecDepth 10000 in
set_option maxHeartbeats 400000 in
theorem c_135_31 {sz : Int} {d : Nat} {A B Y : zF} {K : Nat} {T : zT} {x : Int} {Q : zF → zF → zF → Nat → zT → Prop} (hd : 6 ≤ d) (hI : XI 0 sz A K T) (p1 : 0 ≤ x ∧ x ≤ 20000) (q : ∀ (A' : zF) (K' : Nat) (T' : zT), XI 0 sz A' K' T' → Q A' B Y K' T') : pzV d 135 [.inr (.inr (31 : Nat)), .inl x] (A, B, Y, K, T) Q := by
  have L60 : ∀ (n : Nat) (u : Int) (e : Int) (A2 : zF) (K2 : Nat) (T2 : zT), XI 0 sz A2 K2 T2 → (-9223372036854775808 ≤ u ∧ u < 9223372036854775808) → (0 ≤ e ∧ e < 9223372036854775808) → (9223372036854775808 - e) < (n : Int) → pq d 135 60 [some (.inr (.inr (31 : Nat))), some (.inl x), some (.inr (.inl u)), none, some (.inr (.inl e)), none, none] [] (A2, B, Y, K2, T2) (qV Q) := by
    intro n
    induction n with
    | zero =>
      intro u e A2 K2 T2 hI2 i0 i1 hm
      exfalso
      omega
    | succ n ih =>
      intro u e A2 K2 T2 hI2 i0 i1 hm
      refine pq_of 43 [(60, [6])] [55] ?_
      show ((-9223372036854775808 ≤ e ∧ e < 9223372036854775808) ∧ (-9223372036854775808 ≤ u ∧ u < 9223372036854775808) ∧ (e < u → ((-2147483648 ≤ (-1 : Int) ∧ (-1 : Int) < 2147483648) ∧ ((0 : Int) ≤ (-1 : Int) → Q A2 B Y K2 T2) ∧ ((-1 : Int) < (0 : Int) → ((-2147483648 ≤ (A2 31 5) ∧ (A2 31 5) < 2147483648) ∧ (-2147483648 ≤ (-1 : Int) ∧ (-1 : Int) < 2147483648) ∧ ((A2 31 5) ≠ (-1 : Int) → Q A2 B Y K2 T2) ∧ ((A2 31 5) = (-1 : Int) → ((-2147483648 ≤ (A2 31 8) ∧ (A2 31 8) < 2147483648) ∧ ((A2 31 8) < (0 : Int) → pq d 135 60 [some (.inr (.inr (31 : Nat))), some (.inl x), some (.inr (.inl u)), none, some (.inr (.inl (e + (1 : Int)))), none, none] [] ((zu A2 31 5 (0 : Int)), B, Y, K2, T2) (qV Q)) ∧ ((0 : Int) ≤ (A2 31 8) → ((-2147483648 ≤ (A2 31 8) ∧ (A2 31 8) < 2147483648) ∧ (-2147483648 ≤ (A2 2 12) ∧ (A2 2 12) < 2147483648) ∧ ((A2 31 8) < (A2 2 12) → ((0 ≤ (A2 31 8) ∧ (A2 31 8) < (3000 : Int)) ∧ ((0 ≤ (A2 31 8) ∧ (A2 31 8) < (3000 : Int)) ∧ (0 < d ∧ pzV (d - 1) 137 [.inr (.inr (31 : Nat)), .inl (A2 17 ((A2 31 8)).toNat), .inl (A2 18 ((A2 31 8)).toNat)] ((zu A2 31 8 ((A2 31 8) + (1 : Int))), B, Y, K2, T2) (fun Av101 Bv101 Yv101 Kv101 Tv101 => pq d 135 60 [some (.inr (.inr (31 : Nat))), some (.inl x), some (.inr (.inl u)), none, some (.inr (.inl (e + (1 : Int)))), none, none] [] (Av101, Bv101, Yv101, Kv101, Tv101) (qV Q)))))) ∧ ((A2 2 12) ≤ (A2 31 8) → pq d 135 60 [some (.inr (.inr (31 : Nat))), some (.inl x), some (.inr (.inl u)), none, some (.inr (.inl (e + (1 : Int)))), none, none] [] ((zu A2 31 5 (0 : Int)), B, Y, K2, T2) (qV Q)))))))))) ∧ (e = u → ((-2147483648 ≤ (0 : Int) ∧ (0 : Int) < 2147483648) ∧ ((0 : Int) ≤ (0 : Int) → Q A2 B Y K2 T2) ∧ ((0 : Int) < (0 : Int) → ((-2147483648 ≤ (A2 31 5) ∧ (A2 31 5) < 2147483648) ∧ (-2147483648 ≤ (-1 : Int) ∧ (-1 : Int) < 2147483648) ∧ ((A2 31 5) ≠ (-1 : Int) → Q A2 B Y K2 T2) ∧ ((A2 31 5) = (-1 : Int) → ((-2147483648 ≤ (A2 31 8) ∧ (A2 31 8) < 2147483648) ∧ ((A2 31 8) < (0 : Int) → pq d 135 60 [some (.inr (.inr (31 : Nat))), some (.inl x), some (.inr (.inl u)), none, some (.inr (.inl (e + (1 : Int)))), none, none] [] ((zu A2 31 5 (0 : Int)), B, Y, K2, T2) (qV Q)) ∧ ((0 : Int) ≤ (A2 31 8) → ((-2147483648 ≤ (A2 31 8) ∧ (A2 31 8) < 2147483648) ∧ (-2147483648 ≤ (A2 2 12) ∧ (A2 2 12) < 2147483648) ∧ ((A2 31 8) < (A2 2 12) → ((0 ≤ (A2 31 8) ∧ (A2 31 8) < (3000 : Int)) ∧ ((0 ≤ (A2 31 8) ∧ (A2 31 8) < (3000 : Int)) ∧ (0 < d ∧ pzV (d - 1) 137 [.inr (.inr (31 : Nat)), .inl (A2 17 ((A2 31 8)).toNat), .inl (A2 18 ((A2 31 8)).toNat)] ((zu A2 31 8 ((A2 31 8) + (1 : Int))), B, Y, K2, T2) (fun Av102 Bv102 Yv102 Kv102 Tv102 => pq d 135 60 [some (.inr (.inr (31 : Nat))), some (.inl x), some (.inr (.inl u)), none, some (.inr (.inl (e + (1 : Int)))), none, none] [] (Av102, Bv102, Yv102, Kv102, Tv102) (qV Q)))))) ∧ ((A2 2 12) ≤ (A2 31 8) → pq d 135 60 [some (.inr (.inr (31 : Nat))), some (.inl x), some (.inr (.inl u)), none, some (.inr (.inl (e + (1 : Int)))), none, none] [] ((zu A2 31 5 (0 : Int)), B, Y, K2, T2) (qV Q)))))))))) ∧ (u < e → ((-2147483648 ≤ (1 : Int) ∧ (1 : Int) < 2147483648) ∧ ((0 : Int) ≤ (1 : Int) → Q A2 B Y K2 T2) ∧ ((1 : Int) < (0 : Int) → ((-2147483648 ≤ (A2 31 5) ∧ (A2 31 5) < 2147483648) ∧ (-2147483648 ≤ (-1 : Int) ∧ (-1 : Int) < 2147483648) ∧ ((A2 31 5) ≠ (-1 : Int) → Q A2 B Y K2 T2) ∧ ((A2 31 5) = (-1 : Int) → ((-2147483648 ≤ (A2 31 8) ∧ (A2 31 8) < 2147483648) ∧ ((A2 31 8) < (0 : Int) → pq d 135 60 [some (.inr (.inr (31 : Nat))), some (.inl x), some (.inr (.inl u)), none, some (.inr (.inl (e + (1 : Int)))), none, none] [] ((zu A2 31 5 (0 : Int)), B, Y, K2, T2) (qV Q)) ∧ ((0 : Int) ≤ (A2 31 8) → ((-2147483648 ≤ (A2 31 8) ∧ (A2 31 8) < 2147483648) ∧ (-2147483648 ≤ (A2 2 12) ∧ (A2 2 12) < 2147483648) ∧ ((A2 31 8) < (A2 2 12) → ((0 ≤ (A2 31 8) ∧ (A2 31 8) < (3000 : Int)) ∧ ((0 ≤ (A2 31 8) ∧ (A2 31 8) < (3000 : Int)) ∧ (0 < d ∧ pzV (d - 1) 137 [.inr (.inr (31 : Nat)), .inl (A2 17 ((A2 31 8)).toNat), .inl (A2 18 ((A2 31 8)).toNat)] ((zu A2 31 8 ((A2 31 8) + (1 : Int))), B, Y, K2, T2) (fun Av103 Bv103 Yv103 Kv103 Tv103 => pq d 135 60 [some (.inr (.inr (31 : Nat))), some (.inl x), some (.inr (.inl u)), none, some (.inr (.inl (e + (1 : Int)))), none, none] [] (Av103, Bv103, Yv103, Kv103, Tv103) (qV Q)))))) ∧ ((A2 2 12) ≤ (A2 31 8) → pq d 135 60 [some (.inr (.inr (31 : Nat))), some (.inl x), some (.inr (.inl u)), none, some (.inr (.inl (e + (1 : Int)))), none, none] [] ((zu A2 31 5 (0 : Int)), B, Y, K2, T2) (qV Q)))))))))))
      refine ⟨by omega, by omega, fun z1 => ?_, fun z1 => ?_, fun z1 => ?_⟩
      · skip
        refine ⟨by omega, fun z2 => ?_, fun z2 => ?_⟩
        · skip
          exact absurd z2 (by decide)
        · skip
          have f3 := XI_r_31_5 hI2
          refine ⟨by omega, by omega, fun z4 => ?_, fun z4 => ?_⟩
          · skip
            exact q _ _ _ hI2 
          · skip
            have f5 := XI_r_31_8 hI2
            refine ⟨by omega, fun z6 => ?_, fun z6 => ?_⟩
            · skip
              have hI7 := XI_w_31_5 (v := (0 : Int)) hI2 (by omega) (by omega)
              exact ih (u) ((e + (1 : Int))) _ _ _ hI7 (show -9223372036854775808 ≤ u ∧ u < 9223372036854775808 from by omega) (show 0 ≤ (e + (1 : Int)) ∧ (e + (1 : Int)) < 9223372036854775808 from by omega) (by show 9223372036854775808 - (e + (1 : Int)) < _; omega)
            · skip
              have f8 := XI_r_2_12 hI2
              refine ⟨by omega, by omega, fun z9 => ?_, fun z9 => ?_⟩
              · skip
                have hI10 := XI_w_31_8 (v := ((A2 31 8) + (1 : Int))) hI2 (by omega) (by omega)
                refine ⟨by omega, ?_⟩
                have f11 := XI_r_17 hI2 (((A2 31 8)).toNat)
                refine ⟨by omega, ?_⟩
                have f12 := XI_r_18 hI2 (((A2 31 8)).toNat)
                refine ⟨by omega, c_137_31 (by omega) hI10 (show -2147483648 ≤ (A2 17 ((A2 31 8)).toNat) ∧ (A2 17 ((A2 31 8)).toNat) ≤ 2147483647 from by omega) (show -2147483648 ≤ (A2 18 ((A2 31 8)).toNat) ∧ (A2 18 ((A2 31 8)).toNat) ≤ 2147483647 from by omega) (fun Av101 Kv101 Tv101 xI101 => ?_)⟩
                exact ih (u) ((e + (1 : Int))) _ _ _ xI101 (show -9223372036854775808 ≤ u ∧ u < 9223372036854775808 from by omega) (show 0 ≤ (e + (1 : Int)) ∧ (e + (1 : Int)) < 9223372036854775808 from by omega) (by show 9223372036854775808 - (e + (1 : Int)) < _; omega)
              · skip
                have hI13 := XI_w_31_5 (v := (0 : Int)) hI2 (by omega) (by omega)
                exact ih (u) ((e + (1 : Int))) _ _ _ hI13 (show -9223372036854775808 ≤ u ∧ u < 9223372036854775808 from by omega) (show 0 ≤ (e + (1 : Int)) ∧ (e + (1 : Int)) < 9223372036854775808 from by omega) (by show 9223372036854775808 - (e + (1 : Int)) < _; omega)
      · skip
        refine ⟨by omega, fun z14 => ?_, fun z14 => ?_⟩
        · skip
          exact q _ _ _ hI2 
        · skip
          exact absurd z14 (by decide)
      · skip
        refine ⟨by omega, fun z26 => ?_, fun z26 => ?_⟩
        · skip
          exact q _ _ _ hI2 
        · skip
          exact absurd z26 (by decide)
  refine pzV_of 35 [(60, [6])] [55] ?_
  show ((-2147483648 ≤ x ∧ x < 2147483648) ∧ ((-2147483648 ≤ (A 2 12) ∧ (A 2 12) < 2147483648) ∧ (∀ cv1 : Int, -9223372036854775808 ≤ cv1 → cv1 < 9223372036854775808 → pq d 135 60 [some (.inr (.inr (31 : Nat))), some (.inl x), some (.inr (.inl cv1)), none, some (.inr (.inl (0 : Int))), none, none] [] ((zu (zu (zu (zu (zu (zu A 31 9 x) 31 3 (0 : Int)) 31 4 (0 : Int)) 31 7 (0 : Int)) 31 8 (A 2 13)) 31 5 (-1 : Int)), B, Y, K, T) (qV Q))))
  have hI1 := XI_w_31_9 (v := x) hI (by omega) (by omega)
  have hI2 := XI_w_31_3 (v := (0 : Int)) hI1 (by omega) (by omega)
  have hI3 := XI_w_31_4 (v := (0 : Int)) hI2 (by omega) (by omega)
  have hI4 := XI_w_31_7 (v := (0 : Int)) hI3 (by omega) (by omega)
  have f5 := XI_r_2_13 hI
  have hI6 := XI_w_31_8 (v := (A 2 13)) hI4 (by omega) (by omega)
  have hI7 := XI_w_31_5 (v := (-1 : Int)) hI6 (by omega) (by omega)
  refine ⟨by omega, ?_⟩
  have f8 := XI_r_2_12 hI
  refine ⟨by omega, ?_⟩
  intro cv1 w9a w9b
  exact L60 ((9223372036854775808 - (0 : Int)) + 1).toNat (cv1) ((0 : Int)) _ _ _ hI7 (show -9223372036854775808 ≤ cv1 ∧ cv1 < 9223372036854775808 from by omega) (show 0 ≤ (0 : Int) ∧ (0 : Int) < 9223372036854775808 from by omega) (by show 9223372036854775808 - (0 : Int) < _; omega)

set_option maxRecDepth 10000 in
set_option maxHeartbeats 400000 in
theorem c_132_35_30 {sz : Int} {d : Nat} {A B Y : zF} {K : Nat} {T : zT}  {Q : zF → zF → zF → Nat → zT → Prop} (hd : 1 ≤ d) (hI : XI 0 sz A K T)  (q : ∀ (A' : zF) (K' : Nat) (T' : zT), XI 0 sz A' K' T' → Q A' B Y K' T') : pzV d 132 [.inr (.inr (35 : Nat)), .inr (.inr (30 : Nat))] (A, B, Y, K, T) Q := by
  refine pzV_of 11 [] [] ?_
  show (0 < d ∧ pzI (d - 1) 172 [.inl (2560 : Int), .inl (2560 : Int)] (A, B, Y, K, T) (fun nv1 Av1 Bv1 Yv1 Kv1 Tv1 => ((0 ≤ (0 : Int) ∧ 0 ≤ (0 : Int) ∧ 0 ≤ nv1) ∧ ((0 : Int) + nv1 ≤ (2560 : Int) ∧ (0 : Int) + nv1 ≤ (2632 : Int)) ∧ True ∧ 0 < d ∧ Q (zua Av1 36 (fun j => if ((0 : Int)).toNat ≤ j ∧ j < ((0 : Int)).toNat + (nv1).toNat then (Av1 30 (((0 : Int)).toNat + (j - ((0 : Int)).toNat))) else (Av1 36 j))) Bv1 Yv1 Kv1 Tv1)))
  refine ⟨by omega, c_172 (by omega) (show -2147483648 ≤ (2560 : Int) ∧ (2560 : Int) ≤ 2147483647 from by omega) (show -2147483648 ≤ (2560 : Int) ∧ (2560 : Int) ≤ 2147483647 from by omega) (fun nv1 xp1_0 => ?_)⟩
  replace xp1_0 : (nv1 = (2560 : Int) ∨ nv1 = (2560 : Int)) ∧ nv1 ≤ (2560 : Int) ∧ nv1 ≤ (2560 : Int) := xp1_0
  refine ⟨by omega, by omega, trivial, by omega, ?_⟩
  have hI1 := XI_a_36 (g := (fun j => if ((0 : Int)).toNat ≤ j ∧ j < ((0 : Int)).toNat + (nv1).toNat then (A 30 (((0 : Int)).toNat + (j - ((0 : Int)).toNat))) else (A 36 j))) hI (fun j => by
    show -2147483648 ≤ (if ((0 : Int)).toNat ≤ j ∧ j < ((0 : Int)).toNat + (nv1).toNat then (A 30 (((0 : Int)).toNat + (j - ((0 : Int)).toNat))) else (A 36 j)) ∧ (if ((0 : Int)).toNat ≤ j ∧ j < ((0 : Int)).toNat + (nv1).toNat then (A 30 (((0 : Int)).toNat + (j - ((0 : Int)).toNat))) else (A 36 j)) ≤ 2147483647
    have f1 := XI_r_30 hI (((0 : Int)).toNat + (j - ((0 : Int)).toNat))
    have f2 := XI_r_36 hI j
    split <;> omega)
  exact q _ _ _ hI1 

set_option maxRecDepth 10000 in
set_option maxHeartbeats 400000 in
theorem c_134_35 {sz : Int} {d : Nat} {A B Y : zF} {K : Nat} {T : zT} {x : Int} {y : Int} {w : Int} {Q : Int → zF → zF → zF → Nat → zT → Prop} (hd : 2 ≤ d) (hI : XI 0 sz A K T) (p1 : 0 ≤ x ∧ x < 40) (q : ∀ (r : Int) (A' : zF) (K' : Nat) (T' : zT), XI 0 sz A' K' T' → Q r A' B Y K' T') : pzI d 134 [.inr (.inr (35 : Nat)), .inl x, .inl y, .inl w] (A, B, Y, K, T) Q := by
  have L6 : ∀ (n : Nat) (e : Int) (k : Int) (A2 : zF) (K2 : Nat) (T2 : zT), XI 0 sz A2 K2 T2 → (0 ≤ k ∧ k ≤ 64) → (65 - k) < (n : Int) → pq d 134 6 [some (.inr (.inr (35 : Nat))), some (.inl x), some (.inl y), some (.inl w), some (.inl e), some (.inl k)] [] (A2, B, Y, K2, T2) (qI Q) := by
    intro n
    induction n with
    | zero =>
      intro e k A2 K2 T2 hI2 i0 hm
      exfalso
      omega
    | succ n ih =>
      intro e k A2 K2 T2 hI2 i0 hm
      refine pq_of 21 [(6, [])] [] ?_
      show (0 < d ∧ pzI (d - 1) 79 [.inr (.inr (2 : Nat)), .inl x] (A2, B, Y, K2, T2) (fun nv101 Av101 Bv101 Yv101 Kv101 Tv101 => ((-2147483648 ≤ k ∧ k < 2147483648) ∧ (-2147483648 ≤ nv101 ∧ nv101 < 2147483648) ∧ (nv101 ≤ k → Q e Av101 Bv101 Yv101 Kv101 Tv101) ∧ (k < nv101 → (0 < d ∧ pzI (d - 1) 71 [.inl x, .inl k] (Av101, Bv101, Yv101, Kv101, Tv101) (fun nv102 Av102 Bv102 Yv102 Kv102 Tv102 => ((0 ≤ nv102 ∧ nv102 < (2632 : Int)) ∧ (∀ cv103 : Int, -2147483648 ≤ cv103 → cv103 < 2147483648 → ((0 ≤ nv102 ∧ nv102 < (2632 : Int)) ∧ pq d 134 6 [some (.inr (.inr (35 : Nat))), some (.inl x), some (.inl y), some (.inl w), some (.inl (e + (2 : Int))), some (.inl (k + (1 : Int)))] [] ((zu Av102 36 (nv102).toNat cv103), Bv102, Yv102, Kv102, Tv102) (qI Q))))))))))
      refine ⟨by omega, c_79_2 (by omega) hI2 (show -2147483648 ≤ x ∧ x ≤ 2147483647 from by omega) (fun nv101 xp101_0 xp101_1 => ?_)⟩
      replace xp101_0 : 0 ≤ nv101 ∧ nv101 ≤ 64 := xp101_0
      replace xp101_1 : nv101 = 0 ∨ (0 ≤ x ∧ x < 40) := xp101_1
      refine ⟨by omega, by omega, fun z1 => ?_, fun z1 => ?_⟩
      · skip
        exact q _ _ _ _ hI2 
      · skip
        refine ⟨by omega, c_71 (by omega)  (fun nv102 xp102_0 => ?_)⟩
        replace xp102_0 : nv102 = x * 64 + k := xp102_0
        refine ⟨by omega, ?_⟩
        have f2 := XI_r_36 hI2 ((nv102).toNat)
        intro cv103 w3a w3b
        refine ⟨by omega, ?_⟩
        have hI4 := XI_w_36 (j := (nv102).toNat) (v := cv103) hI2 (by omega) (by omega)
        exact ih ((e + (2 : Int))) ((k + (1 : Int))) _ _ _ hI4 (show 0 ≤ (k + (1 : Int)) ∧ (k + (1 : Int)) ≤ 64 from by omega) (by show 65 - (k + (1 : Int)) < _; omega)
  refine pzI_of 4 [(6, [])] [] ?_
  show pq d 134 6 [some (.inr (.inr (35 : Nat))), some (.inl x), some (.inl y), some (.inl w), some (.inl w), some (.inl (0 : Int))] [] (A, B, Y, K, T) (qI Q)
  exact L6 ((65 - (0 : Int)) + 1).toNat (w) ((0 : Int)) _ _ _ hI (show 0 ≤ (0 : Int) ∧ (0 : Int) ≤ 64 from by omega) (by show 65 - (0 : Int) < _; omega)

set_option maxRecDepth 10000 in
set_option maxHeartbeats 400000 in
theorem c_133_35 {sz : Int} {d : Nat} {A B Y : zF} {K : Nat} {T : zT} {x : Int} {Q : zF → zF → zF → Nat → zT → Prop} (hd : 3 ≤ d) (hI : XI 0 sz A K T)  (q : ∀ (A' : zF) (K' : Nat) (T' : zT), XI 0 sz A' K' T' → Q A' B Y K' T') : pzV d 133 [.inr (.inr (35 : Nat)), .inl x] (A, B, Y, K, T) Q := by
  have L4 : ∀ (n : Nat) (e : Int) (k : Int) (A2 : zF) (K2 : Nat) (T2 : zT), XI 0 sz A2 K2 T2 → (0 ≤ k ∧ k ≤ 40) → (41 - k) < (n : Int) → pq d 133 4 [some (.inr (.inr (35 : Nat))), some (.inl x), some (.inl e), some (.inl k)] [] (A2, B, Y, K2, T2) (qV Q) := by
    intro n
    induction n with
    | zero =>
      intro e k A2 K2 T2 hI2 i0 hm
      exfalso
      omega
    | succ n ih =>
      intro e k A2 K2 T2 hI2 i0 hm
      refine pq_of 20 [(4, [])] [] ?_
      show ((-2147483648 ≤ k ∧ k < 2147483648) ∧ (-2147483648 ≤ (A2 4 4) ∧ (A2 4 4) < 2147483648) ∧ ((A2 4 4) ≤ k → Q A2 B Y K2 T2) ∧ (k < (A2 4 4) → (0 < d ∧ pzI (d - 1) 67 [.inr (.inr (4 : Nat)), .inl k] (A2, B, Y, K2, T2) (fun nv101 Av101 Bv101 Yv101 Kv101 Tv101 => ((-2147483648 ≤ nv101 ∧ nv101 < 2147483648) ∧ (nv101 = (0 : Int) → pq d 133 4 [some (.inr (.inr (35 : Nat))), some (.inl x), some (.inl e), some (.inl (k + (1 : Int)))] [] (Av101, Bv101, Yv101, Kv101, Tv101) (qV Q)) ∧ (nv101 ≠ (0 : Int) → (0 < d ∧ pzI (d - 1) 134 [.inr (.inr (35 : Nat)), .inl k, .inl x, .inl e] (Av101, Bv101, Yv101, Kv101, Tv101) (fun nv102 Av102 Bv102 Yv102 Kv102 Tv102 => pq d 133 4 [some (.inr (.inr (35 : Nat))), some (.inl x), some (.inl nv102), some (.inl (k + (1 : Int)))] [] (Av102, Bv102, Yv102, Kv102, Tv102) (qV Q)))))))))
      have f1 := XI_r_4_4 hI2
      refine ⟨by omega, by omega, fun z2 => ?_, fun z2 => ?_⟩
      · skip
        exact q _ _ _ hI2 
      · skip
        refine ⟨by omega, c_67_4 (by omega) hI2 (show -2147483648 ≤ k ∧ k ≤ 2147483647 from by omega) (fun nv101 xp101_0 => ?_)⟩
        replace xp101_0 : nv101 = 0 ∨ nv101 = 1 := xp101_0
        refine ⟨by omega, fun z3 => ?_, fun z3 => ?_⟩
        · skip
          exact ih (e) ((k + (1 : Int))) _ _ _ hI2 (show 0 ≤ (k + (1 : Int)) ∧ (k + (1 : Int)) ≤ 40 from by omega) (by show 41 - (k + (1 : Int)) < _; omega)
        · skip
          refine ⟨by omega, c_134_35 (by omega) hI2 (show 0 ≤ k ∧ k < 40 from by omega) (fun nv102 Av102 Kv102 Tv102 xI102 => ?_)⟩
          exact ih (nv102) ((k + (1 : Int))) _ _ _ xI102 (show 0 ≤ (k + (1 : Int)) ∧ (k + (1 : Int)) ≤ 40 from by omega) (by show 41 - (k + (1 : Int)) < _; omega)
  refine pzV_of 4 [(4, [])] [] ?_
  show pq d 133 4 [some (.inr (.inr (35 : Nat))), some (.inl x), some (.inl (1 : Int)), some (.inl (0 : Int))] [] (A, B, Y, K, T) (qV Q)
  exact L4 ((41 - (0 : Int)) + 1).toNat ((1 : Int)) ((0 : Int)) _ _ _ hI (show 0 ≤ (0 : Int) ∧ (0 : Int) ≤ 40 from by omega) (by show 41 - (0 : Int) < _; omega)

set_option maxRecDepth 10000 in
set_option maxHeartbeats 400000 in
theorem c_150_35 {sz : Int} {d : Nat} {A B Y : zF} {K : Nat} {T : zT} {x : Int} {Q : zF → zF → zF → Nat → zT → Prop} (hd : 0 ≤ d) (hI : XI 0 sz A K T) (p1 : -2147483648 ≤ x ∧ x ≤ 2147483647) (q : ∀ (A' : zF) (K' : Nat) (T' : zT), XI 0 sz A' K' T' → Q A' B Y K' T') : pzV d 150 [.inr (.inr (35 : Nat)), .inl x] (A, B, Y, K, T) Q := by
  refine pzV_of 19 [] [] ?_
  show ((-2147483648 ≤ (A 35 7) ∧ (A 35 7) < 2147483648) ∧ (-2147483648 ≤ (3000 : Int) ∧ (3000 : Int) < 2147483648) ∧ ((3000 : Int) ≤ (A 35 7) → Q A B Y K T) ∧ ((A 35 7) < (3000 : Int) → ((0 ≤ (A 35 7) ∧ (A 35 7) < (3000 : Int)) ∧ Q (zu (zu A 38 ((A 35 7)).toNat x) 35 7 ((A 35 7) + (1 : Int))) B Y K T)))
  have f1 := XI_r_35_7 hI
  refine ⟨by omega, by omega, fun z2 => ?_, fun z2 => ?_⟩
  · skip
    exact q _ _ _ hI 
  · skip
    refine ⟨by omega, ?_⟩
    have hI3 := XI_w_38 (j := ((A 35 7)).toNat) (v := x) hI (by omega) (by omega)
    have hI4 := XI_w_35_7 (v := ((A 35 7) + (1 : Int))) hI3 (by omega) (by omega)
    exact q _ _ _ hI4 

set_option maxRecDepth 10000 in
set_option maxHeartbeats 400000 in
theorem c_151_35 {sz : Int} {d : Nat} {A B Y : zF} {K : Nat} {T : zT}  {Q : Int → zF → zF → zF → Nat → zT → Prop} (hd : 0 ≤ d) (hI : XI 0 sz A K T)  (q : ∀ (r : Int) (A' : zF) (K' : Nat) (T' : zT), XI 0 sz A' K' T' → (-2147483648 ≤ r ∧ r ≤ 2147483647) → Q r A' B Y K' T') : pzI d 151 [.inr (.inr (35 : Nat))] (A, B, Y, K, T) Q := by
  refine pzI_of 15 [] [] ?_
  show ((-2147483648 ≤ (A 35 7) ∧ (A 35 7) < 2147483648) ∧ ((A 35 7) ≠ (0 : Int) → ((0 ≤ ((A 35 7) - (1 : Int)) ∧ ((A 35 7) - (1 : Int)) < (3000 : Int)) ∧ Q (A 38 (((A 35 7) - (1 : Int))).toNat) (zu A 35 7 ((A 35 7) - (1 : Int))) B Y K T)) ∧ ((A 35 7) = (0 : Int) → Q (0 : Int) A B Y K T))
  have f1 := XI_r_35_7 hI
  refine ⟨by omega, fun z2 => ?_, fun z2 => ?_⟩
  · skip
    have hI3 := XI_w_35_7 (v := ((A 35 7) - (1 : Int))) hI (by omega) (by omega)
    refine ⟨by omega, ?_⟩
    have f4 := XI_r_38 hI ((((A 35 7) - (1 : Int))).toNat)
    exact q _ _ _ _ hI3 (show -2147483648 ≤ (A 38 (((A 35 7) - (1 : Int))).toNat) ∧ (A 38 (((A 35 7) - (1 : Int))).toNat) ≤ 2147483647 from by omega)
  · skip
    exact q _ _ _ _ hI (show -2147483648 ≤ (0 : Int) ∧ (0 : Int) ≤ 2147483647 from by omega)

set_option maxRecDepth 10000 in
set_option maxHeartbeats 400000 in
theorem c_141_35 {sz : Int} {d : Nat} {A B Y : zF} {K : Nat} {T : zT} {x : Int} {Q : Int → zF → zF → zF → Nat → zT → Prop} (hd : 0 ≤ d) (hI : XI 0 sz A K T) (p1 : -2147483648 ≤ x ∧ x ≤ 2147483647) (q : ∀ (r : Int), (-2147483648 ≤ r ∧ r ≤ 2147483647) → Q r A B Y K T) : pzI d 141 [.inr (.inr (35 : Nat)), .inl x] (A, B, Y, K, T) Q := by
  refine pzI_of 13 [] [] ?_
  show ((-2147483648 ≤ x ∧ x < 2147483648) ∧ (x < (0 : Int) → Q (0 : Int) A B Y K T) ∧ ((0 : Int) ≤ x → ((-2147483648 ≤ x ∧ x < 2147483648) ∧ (-2147483648 ≤ (2632 : Int) ∧ (2632 : Int) < 2147483648) ∧ ((2632 : Int) ≤ x → Q (0 : Int) A B Y K T) ∧ (x < (2632 : Int) → ((0 ≤ x ∧ x < (2632 : Int)) ∧ Q (A 36 (x).toNat) A B Y K T)))))
  refine ⟨by omega, fun z1 => ?_, fun z1 => ?_⟩
  · skip
    exact q _ (show -2147483648 ≤ (0 : Int) ∧ (0 : Int) ≤ 2147483647 from by omega)
  · skip
    refine ⟨by omega, by omega, fun z2 => ?_, fun z2 => ?_⟩
    · skip
      exact q _ (show -2147483648 ≤ (0 : Int) ∧ (0 : Int) ≤ 2147483647 from by omega)
    · skip
      refine ⟨by omega, ?_⟩
      have f3 := XI_r_36 hI ((x).toNat)
      exact q _ (show -2147483648 ≤ (A 36 (x).toNat) ∧ (A 36 (x).toNat) ≤ 2147483647 from by omega)

set_option maxRecDepth 10000 in
set_option maxHeartbeats 400000 in
theorem c_142_35 {sz : Int} {d : Nat} {A B Y : zF} {K : Nat} {T : zT} {x : Int} {y : Int} {Q : zF → zF → zF → Nat → zT → Prop} (hd : 0 ≤ d) (hI : XI 0 sz A K T) (p1 : -2147483648 ≤ x ∧ x ≤ 2147483647) (p2 : -2147483648 ≤ y ∧ y ≤ 2147483647) (q : ∀ (A' : zF) (K' : Nat) (T' : zT), XI 0 sz A' K' T' → Q A' B Y K' T') : pzV d 142 [.inr (.inr (35 : Nat)), .inl x, .inl y] (A, B, Y, K, T) Q := by
  refine pzV_of 13 [] [] ?_
  show ((-2147483648 ≤ x ∧ x < 2147483648) ∧ (x < (0 : Int) → Q A B Y K T) ∧ ((0 : Int) ≤ x → ((-2147483648 ≤ x ∧ x < 2147483648) ∧ (-2147483648 ≤ (2632 : Int) ∧ (2632 : Int) < 2147483648) ∧ ((2632 : Int) ≤ x → Q A B Y K T) ∧ (x < (2632 : Int) → ((0 ≤ x ∧ x < (2632 : Int)) ∧ Q (zu A 36 (x).toNat y) B Y K T)))))
  refine ⟨by omega, fun z1 => ?_, fun z1 => ?_⟩
  · skip
    exact q _ _ _ hI 
  · skip
    refine ⟨by omega, by omega, fun z2 => ?_, fun z2 => ?_⟩
    · skip
      exact q _ _ _ hI 
    · skip
      refine ⟨by omega, ?_⟩
      have hI3 := XI_w_36 (j := (x).toNat) (v := y) hI (by omega) (by omega)
      exact q _ _ _ hI3 

set_option maxRecDepth 10000 in
set_option maxHeartbeats 400000 in
theorem c_143_35 {sz : Int} {d : Nat} {A B Y : zF} {K : Nat} {T : zT}  {Q : zF → zF → zF → Nat → zT → Prop} (hd : 0 ≤ d) (hI : XI 0 sz A K T)  (q : ∀ (A' : zF) (K' : Nat) (T' : zT), XI 0 sz A' K' T' → Q A' B Y K' T') : pzV d 143 [.inr (.inr (35 : Nat))] (A, B, Y, K, T) Q := by
  refine pzV_of 12 [] [] ?_
  show ((-2147483648 ≤ (A 35 4) ∧ (A 35 4) < 2147483648) ∧ (-2147483648 ≤ (A 35 9) ∧ (A 35 9) < 2147483648) ∧ ((A 35 4) < (A 35 9) → Q (zu A 35 4 ((A 35 4) + (1 : Int))) B Y K T) ∧ ((A 35 9) ≤ (A 35 4) → Q (zu A 35 5 (1 : Int)) B Y K T))
  have f1 := XI_r_35_4 hI
  have f2 := XI_r_35_9 hI
  refine ⟨by omega, by omega, fun z3 => ?_, fun z3 => ?_⟩
  · skip
    have hI4 := XI_w_35_4 (v := ((A 35 4) + (1 : Int))) hI (by omega) (by omega)
    exact q _ _ _ hI4 
  · skip
    have hI5 := XI_w_35_5 (v := (1 : Int)) hI (by omega) (by omega)
    exact q _ _ _ hI5 

set_option maxRecDepth 10000 in
set_option maxHeartbeats 400000 in
theorem c_144_35 {sz : Int} {d : Nat} {A B Y : zF} {K : Nat} {T : zT} {x : Int} {Q : Int → zF → zF → zF → Nat → zT → Prop} (hd : 0 ≤ d) (hI : XI 0 sz A K T) (p1 : -2147483648 ≤ x ∧ x ≤ 2147483647) (q : ∀ (r : Int) (A' : zF) (K' : Nat) (T' : zT), XI 0 sz A' K' T' → (r = 0 ∨ r = 1) → Q r A' B Y K' T') : pzI d 144 [.inr (.inr (35 : Nat)), .inl x] (A, B, Y, K, T) Q := by
  refine pzI_of 18 [] [] ?_
  show ((-2147483648 ≤ (A 35 3) ∧ (A 35 3) < 2147483648) ∧ (-2147483648 ≤ (4000 : Int) ∧ (4000 : Int) < 2147483648) ∧ ((A 35 3) < (4000 : Int) → ((0 ≤ (A 35 3) ∧ (A 35 3) < (4000 : Int)) ∧ (((1 : Int) = 0 ∨ (1 : Int) = 1) ∧ Q (1 : Int) (zu (zu A 37 ((A 35 3)).toNat x) 35 3 ((A 35 3) + (1 : Int))) B Y K T))) ∧ ((4000 : Int) ≤ (A 35 3) → (((0 : Int) = 0 ∨ (0 : Int) = 1) ∧ Q (0 : Int) (zu A 35 5 (4 : Int)) B Y K T)))
  have f1 := XI_r_35_3 hI
  refine ⟨by omega, by omega, fun z2 => ?_, fun z2 => ?_⟩
  · skip
    refine ⟨by omega, ?_⟩
    have hI3 := XI_w_37 (j := ((A 35 3)).toNat) (v := x) hI (by omega) (by omega)
    have hI4 := XI_w_35_3 (v := ((A 35 3) + (1 : Int))) hI3 (by omega) (by omega)
    exact ⟨by omega, q _ _ _ _ hI4 (show (1 : Int) = 0 ∨ (1 : Int) = 1 from by omega)⟩
  · skip
    have hI5 := XI_w_35_5 (v := (4 : Int)) hI (by omega) (by omega)
    exact ⟨by omega, q _ _ _ _ hI5 (show (0 : Int) = 0 ∨ (0 : Int) = 1 from by omega)⟩

set_option maxRecDepth 10000 in
set_option maxHeartbeats 400000 in
theorem c_145_35 {sz : Int} {d : Nat} {A B Y : zF} {K : Nat} {T : zT} {x : Int} {y : Int} {Q : Int → zF → zF → zF → Nat → zT → Prop} (hd : 3 ≤ d) (hI : XI 0 sz A K T) (p1 : -2147483648 ≤ x ∧ x ≤ 2147483647) (p2 : -2147483648 ≤ y ∧ y ≤ 2147483647) (q : ∀ (r : Int) (A' : zF) (K' : Nat) (T' : zT), XI 0 sz A' K' T' → ((r = 1 ∧ 0 ≤ x ∧ x < 40 ∧ 0 ≤ y ∧ y < 64) ∨ r = 0) → Q r A' B Y K' T') : pzI d 145 [.inr (.inr (35 : Nat)), .inl x, .inl y] (A, B, Y, K, T) Q := by
  refine pzI_of 18 [] [34] ?_
  show (0 < d ∧ pzI (d - 1) 78 [.inr (.inr (2 : Nat)), .inl x, .inl y] (A, B, Y, K, T) (fun nv1 Av1 Bv1 Yv1 Kv1 Tv1 => ((-2147483648 ≤ nv1 ∧ nv1 < 2147483648) ∧ (nv1 ≠ (0 : Int) → ((0 ≤ x ∧ x < (40 : Int)) ∧ (0 < d ∧ pzI (d - 1) 71 [.inl (Av1 9 (x).toNat), .inl y] (Av1, Bv1, Yv1, Kv1, Tv1) (fun nv2 Av2 Bv2 Yv2 Kv2 Tv2 => (∀ cv3 : Int, -2147483648 ≤ cv3 → cv3 < 2147483648 → (0 < d ∧ pzI (d - 1) 144 [.inr (.inr (35 : Nat)), .inl cv3] (Av2, Bv2, Yv2, Kv2, Tv2) (fun nv4 Av4 Bv4 Yv4 Kv4 Tv4 => ((nv4 = 0 ∨ nv4 = 1) ∧ Q nv4 Av4 Bv4 Yv4 Kv4 Tv4)))))))) ∧ (nv1 = (0 : Int) → (((0 : Int) = 0 ∨ (0 : Int) = 1) ∧ Q (0 : Int) (zu Av1 35 5 (2 : Int)) Bv1 Yv1 Kv1 Tv1)))))
  refine ⟨by omega, c_78_2 (by omega) hI (show -2147483648 ≤ x ∧ x ≤ 2147483647 from by omega) (show -2147483648 ≤ y ∧ y ≤ 2147483647 from by omega) (fun nv1 xp1_0 => ?_)⟩
  replace xp1_0 : (nv1 = 1 ∧ 0 ≤ x ∧ x < 40 ∧ 0 ≤ y ∧ y < 64) ∨ nv1 = 0 := xp1_0
  refine ⟨by omega, fun z1 => ?_, fun z1 => ?_⟩
  · skip
    refine ⟨by omega, ?_⟩
    refine ⟨by omega, c_71 (by omega)  (fun nv2 xp2_0 => ?_)⟩
    replace xp2_0 : nv2 = (A 9 (x).toNat) * 64 + y := xp2_0
    intro cv3 w2a w2b
    refine ⟨by omega, c_144_35 (by omega) hI (show -2147483648 ≤ cv3 ∧ cv3 ≤ 2147483647 from by omega) (fun nv4 Av4 Kv4 Tv4 xI4 xp4_0 => ?_)⟩
    replace xp4_0 : nv4 = 0 ∨ nv4 = 1 := xp4_0
    exact ⟨by omega, q _ _ _ _ xI4 (show (nv4 = 1 ∧ 0 ≤ x ∧ x < 40 ∧ 0 ≤ y ∧ y < 64) ∨ nv4 = 0 from by omega)⟩
  · skip
    have hI3 := XI_w_35_5 (v := (2 : Int)) hI (by omega) (by omega)
    exact ⟨by omega, q _ _ _ _ hI3 (show ((0 : Int) = 1 ∧ 0 ≤ x ∧ x < 40 ∧ 0 ≤ y ∧ y < 64) ∨ (0 : Int) = 0 from by omega)⟩

set_option maxRecDepth 10000 in
set_option maxHeartbeats 400000 in
theorem c_146_35 {sz : Int} {d : Nat} {A B Y : zF} {K : Nat} {T : zT} {x : Int} {Q : zF → zF → zF → Nat → zT → Prop} (hd : 4 ≤ d) (hI : XI 0 sz A K T) (p1 : -2147483648 ≤ x ∧ x ≤ 2147483647) (q : ∀ (A' : zF) (K' : Nat) (T' : zT), XI 0 sz A' K' T' → Q A' B Y K' T') : pzV d 146 [.inr (.inr (35 : Nat)), .inl x] (A, B, Y, K, T) Q := by
  refine pzV_of 16 [] [] ?_
  show (0 < d ∧ pzI (d - 1) 151 [.inr (.inr (35 : Nat))] (A, B, Y, K, T) (fun nv1 Av1 Bv1 Yv1 Kv1 Tv1 => (0 < d ∧ pzI (d - 1) 145 [.inr (.inr (35 : Nat)), .inl x, .inl nv1] (Av1, Bv1, Yv1, Kv1, Tv1) (fun nv2 Av2 Bv2 Yv2 Kv2 Tv2 => ((-2147483648 ≤ nv2 ∧ nv2 < 2147483648) ∧ (nv2 = (0 : Int) → Q Av2 Bv2 Yv2 Kv2 Tv2) ∧ (nv2 ≠ (0 : Int) → (0 < d ∧ pzI (d - 1) 71 [.inl x, .inl nv1] (Av2, Bv2, Yv2, Kv2, Tv2) (fun nv3 Av3 Bv3 Yv3 Kv3 Tv3 => (0 < d ∧ pzI (d - 1) 141 [.inr (.inr (35 : Nat)), .inl nv3] (Av3, Bv3, Yv3, Kv3, Tv3) (fun nv4 Av4 Bv4 Yv4 Kv4 Tv4 => (0 < d ∧ pzV (d - 1) 150 [.inr (.inr (35 : Nat)), .inl nv4] (Av4, Bv4, Yv4, Kv4, Tv4) (fun Av5 Bv5 Yv5 Kv5 Tv5 => Q Av5 Bv5 Yv5 Kv5 Tv5))))))))))))
  refine ⟨by omega, c_151_35 (by omega) hI  (fun nv1 Av1 Kv1 Tv1 xI1 xp1_0 => ?_)⟩
  replace xp1_0 : -2147483648 ≤ nv1 ∧ nv1 ≤ 2147483647 := xp1_0
  refine ⟨by omega, c_145_35 (by omega) xI1 (show -2147483648 ≤ x ∧ x ≤ 2147483647 from by omega) (show -2147483648 ≤ nv1 ∧ nv1 ≤ 2147483647 from by omega) (fun nv2 Av2 Kv2 Tv2 xI2 xp2_0 => ?_)⟩
  replace xp2_0 : (nv2 = 1 ∧ 0 ≤ x ∧ x < 40 ∧ 0 ≤ nv1 ∧ nv1 < 64) ∨ nv2 = 0 := xp2_0
  refine ⟨by omega, fun z1 => ?_, fun z1 => ?_⟩
  · skip
    exact q _ _ _ xI2 
  · skip
    refine ⟨by omega, c_71 (by omega)  (fun nv3 xp3_0 => ?_)⟩
    replace xp3_0 : nv3 = x * 64 + nv1 := xp3_0
    refine ⟨by omega, c_141_35 (by omega) xI2 (show -2147483648 ≤ nv3 ∧ nv3 ≤ 2147483647 from by omega) (fun nv4 xp4_0 => ?_)⟩
    replace xp4_0 : -2147483648 ≤ nv4 ∧ nv4 ≤ 2147483647 := xp4_0
    refine ⟨by omega, c_150_35 (by omega) xI2 (show -2147483648 ≤ nv4 ∧ nv4 ≤ 2147483647 from by omega) (fun Av5 Kv5 Tv5 xI5 => ?_)⟩
    exact q _ _ _ xI5 

set_option maxRecDepth 10000 in
set_option maxHeartbeats 400000 in
theorem c_147_35 {sz : Int} {d : Nat} {A B Y : zF} {K : Nat} {T : zT} {x : Int} {Q : zF → zF → zF → Nat → zT → Prop} (hd : 4 ≤ d) (hI : XI 0 sz A K T) (p1 : -2147483648 ≤ x ∧ x ≤ 2147483647) (q : ∀ (A' : zF) (K' : Nat) (T' : zT), XI 0 sz A' K' T' → Q A' B Y K' T') : pzV d 147 [.inr (.inr (35 : Nat)), .inl x] (A, B, Y, K, T) Q := by
  refine pzV_of 18 [] [] ?_
  show (0 < d ∧ pzI (d - 1) 151 [.inr (.inr (35 : Nat))] (A, B, Y, K, T) (fun nv1 Av1 Bv1 Yv1 Kv1 Tv1 => (0 < d ∧ pzI (d - 1) 151 [.inr (.inr (35 : Nat))] (Av1, Bv1, Yv1, Kv1, Tv1) (fun nv2 Av2 Bv2 Yv2 Kv2 Tv2 => (0 < d ∧ pzI (d - 1) 145 [.inr (.inr (35 : Nat)), .inl x, .inl nv2] (Av2, Bv2, Yv2, Kv2, Tv2) (fun nv3 Av3 Bv3 Yv3 Kv3 Tv3 => ((-2147483648 ≤ nv3 ∧ nv3 < 2147483648) ∧ (nv3 = (0 : Int) → Q Av3 Bv3 Yv3 Kv3 Tv3) ∧ (nv3 ≠ (0 : Int) → (0 < d ∧ pzI (d - 1) 71 [.inl x, .inl nv2] (Av3, Bv3, Yv3, Kv3, Tv3) (fun nv4 Av4 Bv4 Yv4 Kv4 Tv4 => (0 < d ∧ pzV (d - 1) 142 [.inr (.inr (35 : Nat)), .inl nv4, .inl nv1] (Av4, Bv4, Yv4, Kv4, Tv4) (fun Av5 Bv5 Yv5 Kv5 Tv5 => Q Av5 Bv5 Yv5 Kv5 Tv5))))))))))))
  refine ⟨by omega, c_151_35 (by omega) hI  (fun nv1 Av1 Kv1 Tv1 xI1 xp1_0 => ?_)⟩
  replace xp1_0 : -2147483648 ≤ nv1 ∧ nv1 ≤ 2147483647 := xp1_0
  refine ⟨by omega, c_151_35 (by omega) xI1  (fun nv2 Av2 Kv2 Tv2 xI2 xp2_0 => ?_)⟩
  replace xp2_0 : -2147483648 ≤ nv2 ∧ nv2 ≤ 2147483647 := xp2_0
  refine ⟨by omega, c_145_35 (by omega) xI2 (show -2147483648 ≤ x ∧ x ≤ 2147483647 from by omega) (show -2147483648 ≤ nv2 ∧ nv2 ≤ 2147483647 from by omega) (fun nv3 Av3 Kv3 Tv3 xI3 xp3_0 => ?_)⟩
  replace xp3_0 : (nv3 = 1 ∧ 0 ≤ x ∧ x < 40 ∧ 0 ≤ nv2 ∧ nv2 < 64) ∨ nv3 = 0 := xp3_0
  refine ⟨by omega, fun z1 => ?_, fun z1 => ?_⟩
  · skip
    exact q _ _ _ xI3 
  · skip
    refine ⟨by omega, c_71 (by omega)  (fun nv4 xp4_0 => ?_)⟩
    replace xp4_0 : nv4 = x * 64 + nv2 := xp4_0
    refine ⟨by omega, c_142_35 (by omega) xI3 (show -2147483648 ≤ nv4 ∧ nv4 ≤ 2147483647 from by omega) (show -2147483648 ≤ nv1 ∧ nv1 ≤ 2147483647 from by omega) (fun Av5 Kv5 Tv5 xI5 => ?_)⟩
    exact q _ _ _ xI5 

set_option maxRecDepth 10000 in
set_option maxHeartbeats 400000 in
theorem c_149_35 {sz : Int} {d : Nat} {A B Y : zF} {K : Nat} {T : zT}  {Q : zF → zF → zF → Nat → zT → Prop} (hd : 1 ≤ d) (hI : XI 0 sz A K T)  (q : ∀ (A' : zF) (K' : Nat) (T' : zT), XI 0 sz A' K' T' → Q A' B Y K' T') : pzV d 149 [.inr (.inr (35 : Nat))] (A, B, Y, K, T) Q := by
  refine pzV_of 11 [] [] ?_
  show (0 < d ∧ pzI (d - 1) 151 [.inr (.inr (35 : Nat))] (A, B, Y, K, T) (fun nv1 Av1 Bv1 Yv1 Kv1 Tv1 => (0 < d ∧ pzI (d - 1) 151 [.inr (.inr (35 : Nat))] (Av1, Bv1, Yv1, Kv1, Tv1) (fun nv2 Av2 Bv2 Yv2 Kv2 Tv2 => (0 < d ∧ pzV (d - 1) 150 [.inr (.inr (35 : Nat)), .inl nv1] ((zu Av2 35 8 nv2), Bv2, Yv2, Kv2, Tv2) (fun Av3 Bv3 Yv3 Kv3 Tv3 => Q Av3 Bv3 Yv3 Kv3 Tv3))))))
  refine ⟨by omega, c_151_35 (by omega) hI  (fun nv1 Av1 Kv1 Tv1 xI1 xp1_0 => ?_)⟩
  replace xp1_0 : -2147483648 ≤ nv1 ∧ nv1 ≤ 2147483647 := xp1_0
  refine ⟨by omega, c_151_35 (by omega) xI1  (fun nv2 Av2 Kv2 Tv2 xI2 xp2_0 => ?_)⟩
  replace xp2_0 : -2147483648 ≤ nv2 ∧ nv2 ≤ 2147483647 := xp2_0
  have hI1 := XI_w_35_8 (v := nv2) xI2 (by omega) (by omega)
  refine ⟨by omega, c_150_35 (by omega) hI1 (show -2147483648 ≤ nv1 ∧ nv1 ≤ 2147483647 from by omega) (fun Av3 Kv3 Tv3 xI3 => ?_)⟩
  exact q _ _ _ xI3 

set_option maxRecDepth 10000 in
set_option maxHeartbeats 400000 in
theorem c_140_35 {sz : Int} {d : Nat} {A B Y : zF} {K : Nat} {T : zT} {x : Int} {y : Int} {w : Int} {Q : zF → zF → zF → Nat → zT → Prop} (hd : 1 ≤ d) (hI : XI 0 sz A K T) (p1 : -2147483648 ≤ x ∧ x ≤ 2147483647) (p2 : -2147483648 ≤ y ∧ y ≤ 2147483647) (p3 : w = 0 ∨ w = 1) (q : ∀ (A' : zF) (K' : Nat) (T' : zT), XI 0 sz A' K' T' → Q A' B Y K' T') : pzV d 140 [.inr (.inr (35 : Nat)), .inl x, .inl y, .inl w] (A, B, Y, K, T) Q := by
  refine pzV_of 11 [] [] ?_
  show ((-2147483648 ≤ y ∧ y < 2147483648) ∧ (y ≠ (0 : Int) → ((-2147483648 ≤ w ∧ w < 2147483648) ∧ (w = (0 : Int) → ((-2147483648 ≤ y ∧ y < 2147483648 ∧ y ≠ 0) ∧ (∀ cv1 : Int, -2147483648 ≤ cv1 → cv1 < 2147483648 → (0 < d ∧ pzV (d - 1) 150 [.inr (.inr (35 : Nat)), .inl cv1] (A, B, Y, K, T) (fun Av2 Bv2 Yv2 Kv2 Tv2 => Q Av2 Bv2 Yv2 Kv2 Tv2))))) ∧ (w ≠ (0 : Int) → ((-2147483648 ≤ y ∧ y < 2147483648 ∧ y ≠ 0) ∧ (∀ cv3 : Int, -2147483648 ≤ cv3 → cv3 < 2147483648 → (0 < d ∧ pzV (d - 1) 150 [.inr (.inr (35 : Nat)), .inl cv3] (A, B, Y, K, T) (fun Av4 Bv4 Yv4 Kv4 Tv4 => Q Av4 Bv4 Yv4 Kv4 Tv4))))))) ∧ (y = (0 : Int) → Q (zu A 35 5 (3 : Int)) B Y K T))
  refine ⟨by omega, fun z1 => ?_, fun z1 => ?_⟩
  · skip
    refine ⟨by omega, fun z2 => ?_, fun z2 => ?_⟩
    · skip
      refine ⟨by omega, fun cv1 w3a w3b => ?_⟩
      refine ⟨by omega, c_150_35 (by omega) hI (show -2147483648 ≤ cv1 ∧ cv1 ≤ 2147483647 from by omega) (fun Av2 Kv2 Tv2 xI2 => ?_)⟩
      exact q _ _ _ xI2 
    · skip
      refine ⟨by omega, fun cv3 w4a w4b => ?_⟩
      refine ⟨by omega, c_150_35 (by omega) hI (show -2147483648 ≤ cv3 ∧ cv3 ≤ 2147483647 from by omega) (fun Av4 Kv4 Tv4 xI4 => ?_)⟩
      exact q _ _ _ xI4 
  · skip
    have hI5 := XI_w_35_5 (v := (3 : Int)) hI (by omega) (by omega)
    exact q _ _ _ hI5 

set_option maxRecDepth 10000 in
set_option maxHeartbeats 400000 in
theorem c_148_35 {sz : Int} {d : Nat} {A B Y : zF} {K : Nat} {T : zT} {x : Int} {Q : zF → zF → zF → Nat → zT → Prop} (hd : 2 ≤ d) (hI : XI 0 sz A K T) (p1 : -2147483648 ≤ x ∧ x ≤ 2147483647) (q : ∀ (A' : zF) (K' : Nat) (T' : zT), XI 0 sz A' K' T' → Q A' B Y K' T') : pzV d 148 [.inr (.inr (35 : Nat)), .inl x] (A, B, Y, K, T) Q := by
  have L45 : ∀ (n : Nat) (e : Int) (k : Int) (A2 : zF) (K2 : Nat) (T2 : zT), XI 0 sz A2 K2 T2 → (0 ≤ e ∧ e ≤ 2620) → (-1 ≤ k ∧ k ≤ 11) → (0 ≤ x ∧ x < 6) → (k + 1) < (n : Int) → pq d 148 45 [some (.inr (.inr (35 : Nat))), some (.inl x), some (.inl e), some (.inl k)] [] (A2, B, Y, K2, T2) (qV Q) := by
    intro n
    induction n with
    | zero =>
      intro e k A2 K2 T2 hI2 i0 i1 i2 hm
      exfalso
      omega
    | succ n ih =>
      intro e k A2 K2 T2 hI2 i0 i1 i2 hm
      refine pq_of 14 [(45, [])] [] ?_
      show ((-2147483648 ≤ k ∧ k < 2147483648) ∧ (k < (0 : Int) → (0 < d ∧ pzV (d - 1) 150 [.inr (.inr (35 : Nat)), .inl (A2 35 8)] (A2, B, Y, K2, T2) (fun Av101 Bv101 Yv101 Kv101 Tv101 => ((0 ≤ x ∧ x < (6 : Int)) ∧ Q (zu Av101 35 8 (Av101 14 (x).toNat)) Bv101 Yv101 Kv101 Tv101)))) ∧ ((0 : Int) ≤ k → (0 < d ∧ pzI (d - 1) 151 [.inr (.inr (35 : Nat))] (A2, B, Y, K2, T2) (fun nv102 Av102 Bv102 Yv102 Kv102 Tv102 => (0 < d ∧ pzV (d - 1) 142 [.inr (.inr (35 : Nat)), .inl (e + k), .inl nv102] (Av102, Bv102, Yv102, Kv102, Tv102) (fun Av103 Bv103 Yv103 Kv103 Tv103 => pq d 148 45 [some (.inr (.inr (35 : Nat))), some (.inl x), some (.inl e), some (.inl (k + (-1 : Int)))] [] (Av103, Bv103, Yv103, Kv103, Tv103) (qV Q)))))))
      refine ⟨by omega, fun z1 => ?_, fun z1 => ?_⟩
      · skip
        have f2 := XI_r_35_8 hI2
        refine ⟨by omega, c_150_35 (by omega) hI2 (show -2147483648 ≤ (A2 35 8) ∧ (A2 35 8) ≤ 2147483647 from by omega) (fun Av101 Kv101 Tv101 xI101 => ?_)⟩
        refine ⟨by omega, ?_⟩
        have f3 := XI_r_14 xI101 ((x).toNat)
        have hI4 := XI_w_35_8 (v := (Av101 14 (x).toNat)) xI101 (by omega) (by omega)
        exact q _ _ _ hI4 
      · skip
        refine ⟨by omega, c_151_35 (by omega) hI2  (fun nv102 Av102 Kv102 Tv102 xI102 xp102_0 => ?_)⟩
        replace xp102_0 : -2147483648 ≤ nv102 ∧ nv102 ≤ 2147483647 := xp102_0
        refine ⟨by omega, c_142_35 (by omega) xI102 (show -2147483648 ≤ (e + k) ∧ (e + k) ≤ 2147483647 from by omega) (show -2147483648 ≤ nv102 ∧ nv102 ≤ 2147483647 from by omega) (fun Av103 Kv103 Tv103 xI103 => ?_)⟩
        exact ih (e) ((k + (-1 : Int))) _ _ _ xI103 (show 0 ≤ e ∧ e ≤ 2620 from by omega) (show -1 ≤ (k + (-1 : Int)) ∧ (k + (-1 : Int)) ≤ 11 from by omega) (show 0 ≤ x ∧ x < 6 from by omega) (by show (k + (-1 : Int)) + 1 < _; omega)
  refine pzV_of 25 [(45, [])] [] ?_
  show (0 < d ∧ pzI (d - 1) 63 [.inr (.inr (10 : Nat)), .inl x] (A, B, Y, K, T) (fun nv1 Av1 Bv1 Yv1 Kv1 Tv1 => ((-2147483648 ≤ nv1 ∧ nv1 < 2147483648) ∧ (nv1 ≠ (0 : Int) → (0 < d ∧ pzI (d - 1) 72 [.inl x, .inl (0 : Int)] (Av1, Bv1, Yv1, Kv1, Tv1) (fun nv2 Av2 Bv2 Yv2 Kv2 Tv2 => (0 < d ∧ pzV (d - 1) 170 [.inr (.inr (36 : Nat)), .inl nv2, .inl (nv2 + (12 : Int)), .inl (0 : Int)] (Av2, Bv2, Yv2, Kv2, Tv2) (fun Av3 Bv3 Yv3 Kv3 Tv3 => (0 < d ∧ pzI (d - 1) 80 [.inr (.inr (2 : Nat)), .inl x] (Av3, Bv3, Yv3, Kv3, Tv3) (fun nv4 Av4 Bv4 Yv4 Kv4 Tv4 => pq d 148 45 [some (.inr (.inr (35 : Nat))), some (.inl x), some (.inl nv2), some (.inl (nv4 - (1 : Int)))] [] (Av4, Bv4, Yv4, Kv4, Tv4) (qV Q)))))))) ∧ (nv1 = (0 : Int) → Q Av1 Bv1 Yv1 Kv1 Tv1))))
  refine ⟨by omega, c_63_10 (by omega) hI (show -2147483648 ≤ x ∧ x ≤ 2147483647 from by omega) (fun nv1 xp1_0 => ?_)⟩
  replace xp1_0 : (nv1 = 1 ∧ 0 ≤ x ∧ x < (A 10 4) ∧ x < 6) ∨ nv1 = 0 := xp1_0
  refine ⟨by omega, fun z1 => ?_, fun z1 => ?_⟩
  · skip
    refine ⟨by omega, c_72 (by omega)  (fun nv2 xp2_0 => ?_)⟩
    replace xp2_0 : nv2 = 2560 + x * 12 + (0 : Int) := xp2_0
    refine ⟨by omega, c_170_36 (by omega) hI (show 0 ≤ nv2 ∧ nv2 ≤ (nv2 + (12 : Int)) ∧ (nv2 + (12 : Int)) ≤ 2632 from by omega) (show -2147483648 ≤ (0 : Int) ∧ (0 : Int) ≤ 2147483647 from by omega) (fun Av3 Kv3 Tv3 xI3 => ?_)⟩
    refine ⟨by omega, c_80_2 (by omega) xI3 (show -2147483648 ≤ x ∧ x ≤ 2147483647 from by omega) (fun nv4 xp4_0 xp4_1 => ?_)⟩
    replace xp4_0 : 0 ≤ nv4 ∧ nv4 ≤ 12 := xp4_0
    replace xp4_1 : nv4 = 0 ∨ (0 ≤ x ∧ x < 6) := xp4_1
    exact L45 (((nv4 - (1 : Int)) + 1) + 1).toNat (nv2) ((nv4 - (1 : Int))) _ _ _ xI3 (show 0 ≤ nv2 ∧ nv2 ≤ 2620 from by omega) (show -1 ≤ (nv4 - (1 : Int)) ∧ (nv4 - (1 : Int)) ≤ 11 from by omega) (show 0 ≤ x ∧ x < 6 from by omega) (by show (nv4 - (1 : Int)) + 1 < _; omega)
  · skip
    exact q _ _ _ hI 

set_option maxRecDepth 10000 in
set_option maxHeartbeats 400000 in
theorem c_138_35 {sz : Int} {d : Nat} {A B Y : zF} {K : Nat} {T : zT} {x : Int} {y : Int} {Q : zF → zF → zF → Nat → zT → Prop} (hd : 2 ≤ d) (hI : XI 0 sz A K T) (p1 : -2147483648 ≤ x ∧ x ≤ 2147483647) (p2 : -2147483648 ≤ y ∧ y ≤ 2147483647) (q : ∀ (A' : zF) (K' : Nat) (T' : zT), XI 0 sz A' K' T' → Q A' B Y K' T') : pzV d 138 [.inr (.inr (35 : Nat)), .inl x, .inl y] (A, B, Y, K, T) Q := by
  refine pzV_of 21 [] [125, 166] ?_
  show (0 < d ∧ pzI (d - 1) 151 [.inr (.inr (35 : Nat))] (A, B, Y, K, T) (fun nv1 Av1 Bv1 Yv1 Kv1 Tv1 => ((-2147483648 ≤ x ∧ x < 2147483648) ∧ ((x < (7 : Int) ∨ (29 : Int) < x) → (0 < d ∧ pzI (d - 1) 151 [.inr (.inr (35 : Nat))] (Av1, Bv1, Yv1, Kv1, Tv1) (fun nv72 Av72 Bv72 Yv72 Kv72 Tv72 => (0 < d ∧ pzI (d - 1) 139 [.inl x, .inl nv72, .inl nv1] (Av72, Bv72, Yv72, Kv72, Tv72) (fun nv73 Av73 Bv73 Yv73 Kv73 Tv73 => (0 < d ∧ pzV (d - 1) 150 [.inr (.inr (35 : Nat)), .inl nv73] (Av73, Bv73, Yv73, Kv73, Tv73) (fun Av74 Bv74 Yv74 Kv74 Tv74 => Q Av74 Bv74 Yv74 Kv74 Tv74))))))) ∧ (x = (7 : Int) → ((-2147483648 ≤ nv1 ∧ nv1 < 2147483648) ∧ (nv1 = (0 : Int) → (∀ cv2 : Int, -2147483648 ≤ cv2 → cv2 < 2147483648 → (0 < d ∧ pzI (d - 1) 144 [.inr (.inr (35 : Nat)), .inl cv2] (Av1, Bv1, Yv1, Kv1, Tv1) (fun nv3 Av3 Bv3 Yv3 Kv3 Tv3 => (0 < d ∧ pzV (d - 1) 150 [.inr (.inr (35 : Nat)), .inl nv1] (Av3, Bv3, Yv3, Kv3, Tv3) (fun Av4 Bv4 Yv4 Kv4 Tv4 => Q Av4 Bv4 Yv4 Kv4 Tv4)))))) ∧ (nv1 ≠ (0 : Int) → (∀ cv5 : Int, -2147483648 ≤ cv5 → cv5 < 2147483648 → (0 < d ∧ pzI (d - 1) 144 [.inr (.inr (35 : Nat)), .inl cv5] (Av1, Bv1, Yv1, Kv1, Tv1) (fun nv6 Av6 Bv6 Yv6 Kv6 Tv6 => (0 < d ∧ pzV (d - 1) 150 [.inr (.inr (35 : Nat)), .inl nv1] (Av6, Bv6, Yv6, Kv6, Tv6) (fun Av7 Bv7 Yv7 Kv7 Tv7 => Q Av7 Bv7 Yv7 Kv7 Tv7)))))))) ∧ (x = (8 : Int) → (0 < d ∧ pzI (d - 1) 151 [.inr (.inr (35 : Nat))] (Av1, Bv1, Yv1, Kv1, Tv1) (fun nv8 Av8 Bv8 Yv8 Kv8 Tv8 => (0 < d ∧ pzI (d - 1) 139 [.inl x, .inl nv8, .inl nv1] (Av8, Bv8, Yv8, Kv8, Tv8) (fun nv9 Av9 Bv9 Yv9 Kv9 Tv9 => (0 < d ∧ pzV (d - 1) 150 [.inr (.inr (35 : Nat)), .inl nv9] (Av9, Bv9, Yv9, Kv9, Tv9) (fun Av10 Bv10 Yv10 Kv10 Tv10 => Q Av10 Bv10 Yv10 Kv10 Tv10))))))) ∧ (x = (9 : Int) → (0 < d ∧ pzI (d - 1) 151 [.inr (.inr (35 : Nat))] (Av1, Bv1, Yv1, Kv1, Tv1) (fun nv11 Av11 Bv11 Yv11 Kv11 Tv11 => (0 < d ∧ pzI (d - 1) 139 [.inl x, .inl nv11, .inl nv1] (Av11, Bv11, Yv11, Kv11, Tv11) (fun nv12 Av12 Bv12 Yv12 Kv12 Tv12 => (0 < d ∧ pzV (d - 1) 150 [.inr (.inr (35 : Nat)), .inl nv12] (Av12, Bv12, Yv12, Kv12, Tv12) (fun Av13 Bv13 Yv13 Kv13 Tv13 => Q Av13 Bv13 Yv13 Kv13 Tv13))))))) ∧ (x = (10 : Int) → (0 < d ∧ pzI (d - 1) 151 [.inr (.inr (35 : Nat))] (Av1, Bv1, Yv1, Kv1, Tv1) (fun nv14 Av14 Bv14 Yv14 Kv14 Tv14 => (0 < d ∧ pzI (d - 1) 139 [.inl x, .inl nv14, .inl nv1] (Av14, Bv14, Yv14, Kv14, Tv14) (fun nv15 Av15 Bv15 Yv15 Kv15 Tv15 => (0 < d ∧ pzV (d - 1) 150 [.inr (.inr (35 : Nat)), .inl nv15] (Av15, Bv15, Yv15, Kv15, Tv15) (fun Av16 Bv16 Yv16 Kv16 Tv16 => Q Av16 Bv16 Yv16 Kv16 Tv16))))))) ∧ (x = (11 : Int) → (0 < d ∧ pzI (d - 1) 151 [.inr (.inr (35 : Nat))] (Av1, Bv1, Yv1, Kv1, Tv1) (fun nv17 Av17 Bv17 Yv17 Kv17 Tv17 => (0 < d ∧ pzI (d - 1) 139 [.inl x, .inl nv17, .inl nv1] (Av17, Bv17, Yv17, Kv17, Tv17) (fun nv18 Av18 Bv18 Yv18 Kv18 Tv18 => (0 < d ∧ pzV (d - 1) 150 [.inr (.inr (35 : Nat)), .inl nv18] (Av18, Bv18, Yv18, Kv18, Tv18) (fun Av19 Bv19 Yv19 Kv19 Tv19 => Q Av19 Bv19 Yv19 Kv19 Tv19))))))) ∧ (x = (12 : Int) → (0 < d ∧ pzI (d - 1) 151 [.inr (.inr (35 : Nat))] (Av1, Bv1, Yv1, Kv1, Tv1) (fun nv20 Av20 Bv20 Yv20 Kv20 Tv20 => (0 < d ∧ pzI (d - 1) 151 [.inr (.inr (35 : Nat))] (Av20, Bv20, Yv20, Kv20, Tv20) (fun nv21 Av21 Bv21 Yv21 Kv21 Tv21 => ((-2147483648 ≤ nv21 ∧ nv21 < 2147483648) ∧ (nv21 = (0 : Int) → (0 < d ∧ pzV (d - 1) 150 [.inr (.inr (35 : Nat)), .inl nv1] (Av21, Bv21, Yv21, Kv21, Tv21) (fun Av22 Bv22 Yv22 Kv22 Tv22 => Q Av22 Bv22 Yv22 Kv22 Tv22))) ∧ (nv21 ≠ (0 : Int) → (0 < d ∧ pzV (d - 1) 150 [.inr (.inr (35 : Nat)), .inl nv20] (Av21, Bv21, Yv21, Kv21, Tv21) (fun Av23 Bv23 Yv23 Kv23 Tv23 => Q Av23 Bv23 Yv23 Kv23 Tv23))))))))) ∧ (x = (13 : Int) → (∀ cv24 : Int, -2147483648 ≤ cv24 → cv24 < 2147483648 → (0 < d ∧ pzV (d - 1) 150 [.inr (.inr (35 : Nat)), .inl cv24] (Av1, Bv1, Yv1, Kv1, Tv1) (fun Av25 Bv25 Yv25 Kv25 Tv25 => Q Av25 Bv25 Yv25 Kv25 Tv25)))) ∧ (x = (14 : Int) → (∀ cv26 : Int, -2147483648 ≤ cv26 → cv26 < 2147483648 → (0 < d ∧ pzV (d - 1) 150 [.inr (.inr (35 : Nat)), .inl cv26] (Av1, Bv1, Yv1, Kv1, Tv1) (fun Av27 Bv27 Yv27 Kv27 Tv27 => Q Av27 Bv27 Yv27 Kv27 Tv27)))) ∧ (x = (15 : Int) → ((-2147483648 ≤ nv1 ∧ nv1 < 2147483648) ∧ (nv1 ≠ (0 : Int) → (0 < d ∧ pzV (d - 1) 150 [.inr (.inr (35 : Nat)), .inl (0 : Int)] (Av1, Bv1, Yv1, Kv1, Tv1) (fun Av28 Bv28 Yv28 Kv28 Tv28 => Q Av28 Bv28 Yv28 Kv28 Tv28))) ∧ (nv1 = (0 : Int) → (0 < d ∧ pzV (d - 1) 150 [.inr (.inr (35 : Nat)), .inl (1 : Int)] (Av1, Bv1, Yv1, Kv1, Tv1) (fun Av29 Bv29 Yv29 Kv29 Tv29 => Q Av29 Bv29 Yv29 Kv29 Tv29))))) ∧ (x = (16 : Int) → (0 < d ∧ pzI (d - 1) 151 [.inr (.inr (35 : Nat))] (Av1, Bv1, Yv1, Kv1, Tv1) (fun nv30 Av30 Bv30 Yv30 Kv30 Tv30 => (0 < d ∧ pzI (d - 1) 139 [.inl x, .inl nv30, .inl nv1] (Av30, Bv30, Yv30, Kv30, Tv30) (fun nv31 Av31 Bv31 Yv31 Kv31 Tv31 => (0 < d ∧ pzV (d - 1) 150 [.inr (.inr (35 : Nat)), .inl nv31] (Av31, Bv31, Yv31, Kv31, Tv31) (fun Av32 Bv32 Yv32 Kv32 Tv32 => Q Av32 Bv32 Yv32 Kv32 Tv32))))))) ∧ (x = (17 : Int) → (0 < d ∧ pzI (d - 1) 151 [.inr (.inr (35 : Nat))] (Av1, Bv1, Yv1, Kv1, Tv1) (fun nv33 Av33 Bv33 Yv33 Kv33 Tv33 => (0 < d ∧ pzI (d - 1) 139 [.inl x, .inl nv33, .inl nv1] (Av33, Bv33, Yv33, Kv33, Tv33) (fun nv34 Av34 Bv34 Yv34 Kv34 Tv34 => (0 < d ∧ pzV (d - 1) 150 [.inr (.inr (35 : Nat)), .inl nv34] (Av34, Bv34, Yv34, Kv34, Tv34) (fun Av35 Bv35 Yv35 Kv35 Tv35 => Q Av35 Bv35 Yv35 Kv35 Tv35))))))) ∧ (x = (18 : Int) → (0 < d ∧ pzI (d - 1) 151 [.inr (.inr (35 : Nat))] (Av1, Bv1, Yv1, Kv1, Tv1) (fun nv36 Av36 Bv36 Yv36 Kv36 Tv36 => (0 < d ∧ pzI (d - 1) 139 [.inl x, .inl nv36, .inl nv1] (Av36, Bv36, Yv36, Kv36, Tv36) (fun nv37 Av37 Bv37 Yv37 Kv37 Tv37 => (0 < d ∧ pzV (d - 1) 150 [.inr (.inr (35 : Nat)), .inl nv37] (Av37, Bv37, Yv37, Kv37, Tv37) (fun Av38 Bv38 Yv38 Kv38 Tv38 => Q Av38 Bv38 Yv38 Kv38 Tv38))))))) ∧ (x = (19 : Int) → (0 < d ∧ pzI (d - 1) 151 [.inr (.inr (35 : Nat))] (Av1, Bv1, Yv1, Kv1, Tv1) (fun nv39 Av39 Bv39 Yv39 Kv39 Tv39 => (0 < d ∧ pzI (d - 1) 139 [.inl x, .inl nv39, .inl nv1] (Av39, Bv39, Yv39, Kv39, Tv39) (fun nv40 Av40 Bv40 Yv40 Kv40 Tv40 => (0 < d ∧ pzV (d - 1) 150 [.inr (.inr (35 : Nat)), .inl nv40] (Av40, Bv40, Yv40, Kv40, Tv40) (fun Av41 Bv41 Yv41 Kv41 Tv41 => Q Av41 Bv41 Yv41 Kv41 Tv41))))))) ∧ (x = (20 : Int) → (0 < d ∧ pzI (d - 1) 151 [.inr (.inr (35 : Nat))] (Av1, Bv1, Yv1, Kv1, Tv1) (fun nv42 Av42 Bv42 Yv42 Kv42 Tv42 => (0 < d ∧ pzI (d - 1) 139 [.inl x, .inl nv42, .inl nv1] (Av42, Bv42, Yv42, Kv42, Tv42) (fun nv43 Av43 Bv43 Yv43 Kv43 Tv43 => (0 < d ∧ pzV (d - 1) 150 [.inr (.inr (35 : Nat)), .inl nv43] (Av43, Bv43, Yv43, Kv43, Tv43) (fun Av44 Bv44 Yv44 Kv44 Tv44 => Q Av44 Bv44 Yv44 Kv44 Tv44))))))) ∧ (x = (21 : Int) → (0 < d ∧ pzI (d - 1) 151 [.inr (.inr (35 : Nat))] (Av1, Bv1, Yv1, Kv1, Tv1) (fun nv45 Av45 Bv45 Yv45 Kv45 Tv45 => (0 < d ∧ pzI (d - 1) 139 [.inl x, .inl nv45, .inl nv1] (Av45, Bv45, Yv45, Kv45, Tv45) (fun nv46 Av46 Bv46 Yv46 Kv46 Tv46 => (0 < d ∧ pzV (d - 1) 150 [.inr (.inr (35 : Nat)), .inl nv46] (Av46, Bv46, Yv46, Kv46, Tv46) (fun Av47 Bv47 Yv47 Kv47 Tv47 => Q Av47 Bv47 Yv47 Kv47 Tv47))))))) ∧ (x = (22 : Int) → (0 < d ∧ pzI (d - 1) 151 [.inr (.inr (35 : Nat))] (Av1, Bv1, Yv1, Kv1, Tv1) (fun nv48 Av48 Bv48 Yv48 Kv48 Tv48 => (0 < d ∧ pzI (d - 1) 139 [.inl x, .inl nv48, .inl nv1] (Av48, Bv48, Yv48, Kv48, Tv48) (fun nv49 Av49 Bv49 Yv49 Kv49 Tv49 => (0 < d ∧ pzV (d - 1) 150 [.inr (.inr (35 : Nat)), .inl nv49] (Av49, Bv49, Yv49, Kv49, Tv49) (fun Av50 Bv50 Yv50 Kv50 Tv50 => Q Av50 Bv50 Yv50 Kv50 Tv50))))))) ∧ (x = (23 : Int) → (0 < d ∧ pzI (d - 1) 151 [.inr (.inr (35 : Nat))] (Av1, Bv1, Yv1, Kv1, Tv1) (fun nv51 Av51 Bv51 Yv51 Kv51 Tv51 => (0 < d ∧ pzI (d - 1) 139 [.inl x, .inl nv51, .inl nv1] (Av51, Bv51, Yv51, Kv51, Tv51) (fun nv52 Av52 Bv52 Yv52 Kv52 Tv52 => (0 < d ∧ pzV (d - 1) 150 [.inr (.inr (35 : Nat)), .inl nv52] (Av52, Bv52, Yv52, Kv52, Tv52) (fun Av53 Bv53 Yv53 Kv53 Tv53 => Q Av53 Bv53 Yv53 Kv53 Tv53))))))) ∧ (x = (24 : Int) → (0 < d ∧ pzI (d - 1) 151 [.inr (.inr (35 : Nat))] (Av1, Bv1, Yv1, Kv1, Tv1) (fun nv54 Av54 Bv54 Yv54 Kv54 Tv54 => (0 < d ∧ pzI (d - 1) 139 [.inl x, .inl nv54, .inl nv1] (Av54, Bv54, Yv54, Kv54, Tv54) (fun nv55 Av55 Bv55 Yv55 Kv55 Tv55 => (0 < d ∧ pzV (d - 1) 150 [.inr (.inr (35 : Nat)), .inl nv55] (Av55, Bv55, Yv55, Kv55, Tv55) (fun Av56 Bv56 Yv56 Kv56 Tv56 => Q Av56 Bv56 Yv56 Kv56 Tv56))))))) ∧ (x = (25 : Int) → (0 < d ∧ pzI (d - 1) 151 [.inr (.inr (35 : Nat))] (Av1, Bv1, Yv1, Kv1, Tv1) (fun nv57 Av57 Bv57 Yv57 Kv57 Tv57 => (0 < d ∧ pzI (d - 1) 139 [.inl x, .inl nv57, .inl nv1] (Av57, Bv57, Yv57, Kv57, Tv57) (fun nv58 Av58 Bv58 Yv58 Kv58 Tv58 => (0 < d ∧ pzV (d - 1) 150 [.inr (.inr (35 : Nat)), .inl nv58] (Av58, Bv58, Yv58, Kv58, Tv58) (fun Av59 Bv59 Yv59 Kv59 Tv59 => Q Av59 Bv59 Yv59 Kv59 Tv59))))))) ∧ (x = (26 : Int) → (0 < d ∧ pzI (d - 1) 151 [.inr (.inr (35 : Nat))] (Av1, Bv1, Yv1, Kv1, Tv1) (fun nv60 Av60 Bv60 Yv60 Kv60 Tv60 => (0 < d ∧ pzI (d - 1) 139 [.inl x, .inl nv60, .inl nv1] (Av60, Bv60, Yv60, Kv60, Tv60) (fun nv61 Av61 Bv61 Yv61 Kv61 Tv61 => (0 < d ∧ pzV (d - 1) 150 [.inr (.inr (35 : Nat)), .inl nv61] (Av61, Bv61, Yv61, Kv61, Tv61) (fun Av62 Bv62 Yv62 Kv62 Tv62 => Q Av62 Bv62 Yv62 Kv62 Tv62))))))) ∧ (x = (27 : Int) → (0 < d ∧ pzI (d - 1) 151 [.inr (.inr (35 : Nat))] (Av1, Bv1, Yv1, Kv1, Tv1) (fun nv63 Av63 Bv63 Yv63 Kv63 Tv63 => (0 < d ∧ pzI (d - 1) 139 [.inl x, .inl nv63, .inl nv1] (Av63, Bv63, Yv63, Kv63, Tv63) (fun nv64 Av64 Bv64 Yv64 Kv64 Tv64 => (0 < d ∧ pzV (d - 1) 150 [.inr (.inr (35 : Nat)), .inl nv64] (Av64, Bv64, Yv64, Kv64, Tv64) (fun Av65 Bv65 Yv65 Kv65 Tv65 => Q Av65 Bv65 Yv65 Kv65 Tv65))))))) ∧ (x = (28 : Int) → (0 < d ∧ pzI (d - 1) 151 [.inr (.inr (35 : Nat))] (Av1, Bv1, Yv1, Kv1, Tv1) (fun nv66 Av66 Bv66 Yv66 Kv66 Tv66 => ((-2147483648 ≤ x ∧ x < 2147483648) ∧ (-2147483648 ≤ (28 : Int) ∧ (28 : Int) < 2147483648) ∧ (x ≠ (28 : Int) → (0 < d ∧ pzV (d - 1) 140 [.inr (.inr (35 : Nat)), .inl nv66, .inl nv1, .inl (0 : Int)] (Av66, Bv66, Yv66, Kv66, Tv66) (fun Av67 Bv67 Yv67 Kv67 Tv67 => Q Av67 Bv67 Yv67 Kv67 Tv67))) ∧ (x = (28 : Int) → (0 < d ∧ pzV (d - 1) 140 [.inr (.inr (35 : Nat)), .inl nv66, .inl nv1, .inl (1 : Int)] (Av66, Bv66, Yv66, Kv66, Tv66) (fun Av68 Bv68 Yv68 Kv68 Tv68 => Q Av68 Bv68 Yv68 Kv68 Tv68))))))) ∧ (x = (29 : Int) → (0 < d ∧ pzI (d - 1) 151 [.inr (.inr (35 : Nat))] (Av1, Bv1, Yv1, Kv1, Tv1) (fun nv69 Av69 Bv69 Yv69 Kv69 Tv69 => ((-2147483648 ≤ x ∧ x < 2147483648) ∧ (-2147483648 ≤ (28 : Int) ∧ (28 : Int) < 2147483648) ∧ (x ≠ (28 : Int) → (0 < d ∧ pzV (d - 1) 140 [.inr (.inr (35 : Nat)), .inl nv69, .inl nv1, .inl (0 : Int)] (Av69, Bv69, Yv69, Kv69, Tv69) (fun Av70 Bv70 Yv70 Kv70 Tv70 => Q Av70 Bv70 Yv70 Kv70 Tv70))) ∧ (x = (28 : Int) → (0 < d ∧ pzV (d - 1) 140 [.inr (.inr (35 : Nat)), .inl nv69, .inl nv1, .inl (1 : Int)] (Av69, Bv69, Yv69, Kv69, Tv69) (fun Av71 Bv71 Yv71 Kv71 Tv71 => Q Av71 Bv71 Yv71 Kv71 Tv71))))))) ∧ True)))
  refine ⟨by omega, c_151_35 (by omega) hI  (fun nv1 Av1 Kv1 Tv1 xI1 xp1_0 => ?_)⟩
  replace xp1_0 : -2147483648 ≤ nv1 ∧ nv1 ≤ 2147483647 := xp1_0
  refine ⟨by omega, fun z1 => ?_, fun z1 => ?_, fun z1 => ?_, fun z1 => ?_, fun z1 => ?_, fun z1 => ?_, fun z1 => ?_, fun z1 => ?_, fun z1 => ?_, fun z1 => ?_, fun z1 => ?_, fun z1 => ?_, fun z1 => ?_, fun z1 => ?_, fun z1 => ?_, fun z1 => ?_, fun z1 => ?_, fun z1 => ?_, fun z1 => ?_, fun z1 => ?_, fun z1 => ?_, fun z1 => ?_, fun z1 => ?_, fun z1 => ?_, trivial⟩
  · skip
    refine ⟨by omega, c_151_35 (by omega) xI1  (fun nv72 Av72 Kv72 Tv72 xI72 xp72_0 => ?_)⟩
    replace xp72_0 : -2147483648 ≤ nv72 ∧ nv72 ≤ 2147483647 := xp72_0
    refine ⟨by omega, c_139 (by omega) (show -2147483648 ≤ x ∧ x ≤ 2147483647 from by omega) (show -2147483648 ≤ nv72 ∧ nv72 ≤ 2147483647 from by omega) (show -2147483648 ≤ nv1 ∧ nv1 ≤ 2147483647 from by omega) (fun nv73 xp73_0 => ?_)⟩
    replace xp73_0 : -2147483648 ≤ nv73 ∧ nv73 ≤ 2147483647 := xp73_0
    refine ⟨by omega, c_150_35 (by omega) xI72 (show -2147483648 ≤ nv73 ∧ nv73 ≤ 2147483647 from by omega) (fun Av74 Kv74 Tv74 xI74 => ?_)⟩
    exact q _ _ _ xI74 
  · skip
    refine ⟨by omega, fun z2 => ?_, fun z2 => ?_⟩
    · skip
      intro cv2 w3a w3b
      refine ⟨by omega, c_144_35 (by omega) xI1 (show -2147483648 ≤ cv2 ∧ cv2 ≤ 2147483647 from by omega) (fun nv3 Av3 Kv3 Tv3 xI3 xp3_0 => ?_)⟩
      replace xp3_0 : nv3 = 0 ∨ nv3 = 1 := xp3_0
      refine ⟨by omega, c_150_35 (by omega) xI3 (show -2147483648 ≤ nv1 ∧ nv1 ≤ 2147483647 from by omega) (fun Av4 Kv4 Tv4 xI4 => ?_)⟩
      exact q _ _ _ xI4 
    · skip
      intro cv5 w4a w4b
      refine ⟨by omega, c_144_35 (by omega) xI1 (show -2147483648 ≤ cv5 ∧ cv5 ≤ 2147483647 from by omega) (fun nv6 Av6 Kv6 Tv6 xI6 xp6_0 => ?_)⟩
      replace xp6_0 : nv6 = 0 ∨ nv6 = 1 := xp6_0
      refine ⟨by omega, c_150_35 (by omega) xI6 (show -2147483648 ≤ nv1 ∧ nv1 ≤ 2147483647 from by omega) (fun Av7 Kv7 Tv7 xI7 => ?_)⟩
      exact q _ _ _ xI7 
  · skip
    refine ⟨by omega, c_151_35 (by omega) xI1  (fun nv8 Av8 Kv8 Tv8 xI8 xp8_0 => ?_)⟩
    replace xp8_0 : -2147483648 ≤ nv8 ∧ nv8 ≤ 2147483647 := xp8_0
    refine ⟨by omega, c_139 (by omega) (show -2147483648 ≤ x ∧ x ≤ 2147483647 from by omega) (show -2147483648 ≤ nv8 ∧ nv8 ≤ 2147483647 from by omega) (show -2147483648 ≤ nv1 ∧ nv1 ≤ 2147483647 from by omega) (fun nv9 xp9_0 => ?_)⟩
    replace xp9_0 : -2147483648 ≤ nv9 ∧ nv9 ≤ 2147483647 := xp9_0
    refine ⟨by omega, c_150_35 (by omega) xI8 (show -2147483648 ≤ nv9 ∧ nv9 ≤ 2147483647 from by omega) (fun Av10 Kv10 Tv10 xI10 => ?_)⟩
    exact q _ _ _ xI10 
  · skip
    refine ⟨by omega, c_151_35 (by omega) xI1  (fun nv11 Av11 Kv11 Tv11 xI11 xp11_0 => ?_)⟩
    replace xp11_0 : -2147483648 ≤ nv11 ∧ nv11 ≤ 2147483647 := xp11_0
    refine ⟨by omega, c_139 (by omega) (show -2147483648 ≤ x ∧ x ≤ 2147483647 from by omega) (show -2147483648 ≤ nv11 ∧ nv11 ≤ 2147483647 from by omega) (show -2147483648 ≤ nv1 ∧ nv1 ≤ 2147483647 from by omega) (fun nv12 xp12_0 => ?_)⟩
    replace xp12_0 : -2147483648 ≤ nv12 ∧ nv12 ≤ 2147483647 := xp12_0
    refine ⟨by omega, c_150_35 (by omega) xI11 (show -2147483648 ≤ nv12 ∧ nv12 ≤ 2147483647 from by omega) (fun Av13 Kv13 Tv13 xI13 => ?_)⟩
    exact q _ _ _ xI13 
  · skip
    refine ⟨by omega, c_151_35 (by omega) xI1  (fun nv14 Av14 Kv14 Tv14 xI14 xp14_0 => ?_)⟩
    replace xp14_0 : -2147483648 ≤ nv14 ∧ nv14 ≤ 2147483647 := xp14_0
    refine ⟨by omega, c_139 (by omega) (show -2147483648 ≤ x ∧ x ≤ 2147483647 from by omega) (show -2147483648 ≤ nv14 ∧ nv14 ≤ 2147483647 from by omega) (show -2147483648 ≤ nv1 ∧ nv1 ≤ 2147483647 from by omega) (fun nv15 xp15_0 => ?_)⟩
    replace xp15_0 : -2147483648 ≤ nv15 ∧ nv15 ≤ 2147483647 := xp15_0
    refine ⟨by omega, c_150_35 (by omega) xI14 (show -2147483648 ≤ nv15 ∧ nv15 ≤ 2147483647 from by omega) (fun Av16 Kv16 Tv16 xI16 => ?_)⟩
    exact q _ _ _ xI16 
  · skip
    refine ⟨by omega, c_151_35 (by omega) xI1  (fun nv17 Av17 Kv17 Tv17 xI17 xp17_0 => ?_)⟩
    replace xp17_0 : -2147483648 ≤ nv17 ∧ nv17 ≤ 2147483647 := xp17_0
    refine ⟨by omega, c_139 (by omega) (show -2147483648 ≤ x ∧ x ≤ 2147483647 from by omega) (show -2147483648 ≤ nv17 ∧ nv17 ≤ 2147483647 from by omega) (show -2147483648 ≤ nv1 ∧ nv1 ≤ 2147483647 from by omega) (fun nv18 xp18_0 => ?_)⟩
    replace xp18_0 : -2147483648 ≤ nv18 ∧ nv18 ≤ 2147483647 := xp18_0
    refine ⟨by omega, c_150_35 (by omega) xI17 (show -2147483648 ≤ nv18 ∧ nv18 ≤ 2147483647 from by omega) (fun Av19 Kv19 Tv19 xI19 => ?_)⟩
    exact q _ _ _ xI19 
  · skip
    refine ⟨by omega, c_151_35 (by omega) xI1  (fun nv20 Av20 Kv20 Tv20 xI20 xp20_0 => ?_)⟩
    replace xp20_0 : -2147483648 ≤ nv20 ∧ nv20 ≤ 2147483647 := xp20_0
    refine ⟨by omega, c_151_35 (by omega) xI20  (fun nv21 Av21 Kv21 Tv21 xI21 xp21_0 => ?_)⟩
    replace xp21_0 : -2147483648 ≤ nv21 ∧ nv21 ≤ 2147483647 := xp21_0
    refine ⟨by omega, fun z5 => ?_, fun z5 => ?_⟩
    · skip
      refine ⟨by omega, c_150_35 (by omega) xI21 (show -2147483648 ≤ nv1 ∧ nv1 ≤ 2147483647 from by omega) (fun Av22 Kv22 Tv22 xI22 => ?_)⟩
      exact q _ _ _ xI22 
    · skip
      refine ⟨by omega, c_150_35 (by omega) xI21 (show -2147483648 ≤ nv20 ∧ nv20 ≤ 2147483647 from by omega) (fun Av23 Kv23 Tv23 xI23 => ?_)⟩
      exact q _ _ _ xI23 
  · skip
    intro cv24 w6a w6b
    refine ⟨by omega, c_150_35 (by omega) xI1 (show -2147483648 ≤ cv24 ∧ cv24 ≤ 2147483647 from by omega) (fun Av25 Kv25 Tv25 xI25 => ?_)⟩
    exact q _ _ _ xI25 
  · skip
    intro cv26 w7a w7b
    refine ⟨by omega, c_150_35 (by omega) xI1 (show -2147483648 ≤ cv26 ∧ cv26 ≤ 2147483647 from by omega) (fun Av27 Kv27 Tv27 xI27 => ?_)⟩
    exact q _ _ _ xI27 
  · skip
    refine ⟨by omega, fun z8 => ?_, fun z8 => ?_⟩
    · skip
      refine ⟨by omega, c_150_35 (by omega) xI1 (show -2147483648 ≤ (0 : Int) ∧ (0 : Int) ≤ 2147483647 from by omega) (fun Av28 Kv28 Tv28 xI28 => ?_)⟩
      exact q _ _ _ xI28 
    · skip
      refine ⟨by omega, c_150_35 (by omega) xI1 (show -2147483648 ≤ (1 : Int) ∧ (1 : Int) ≤ 2147483647 from by omega) (fun Av29 Kv29 Tv29 xI29 => ?_)⟩
      exact q _ _ _ xI29 
  · skip
    refine ⟨by omega, c_151_35 (by omega) xI1  (fun nv30 Av30 Kv30 Tv30 xI30 xp30_0 => ?_)⟩
    replace xp30_0 : -2147483648 ≤ nv30 ∧ nv30 ≤ 2147483647 := xp30_0
    refine ⟨by omega, c_139 (by omega) (show -2147483648 ≤ x ∧ x ≤ 2147483647 from by omega) (show -2147483648 ≤ nv30 ∧ nv30 ≤ 2147483647 from by omega) (show -2147483648 ≤ nv1 ∧ nv1 ≤ 2147483647 from by omega) (fun nv31 xp31_0 => ?_)⟩
    replace xp31_0 : -2147483648 ≤ nv31 ∧ nv31 ≤ 2147483647 := xp31_0
    refine ⟨by omega, c_150_35 (by omega) xI30 (show -2147483648 ≤ nv31 ∧ nv31 ≤ 2147483647 from by omega) (fun Av32 Kv32 Tv32 xI32 => ?_)⟩
    exact q _ _ _ xI32 
  · skip
    refine ⟨by omega, c_151_35 (by omega) xI1  (fun nv33 Av33 Kv33 Tv33 xI33 xp33_0 => ?_)⟩
    replace xp33_0 : -2147483648 ≤ nv33 ∧ nv33 ≤ 2147483647 := xp33_0
    refine ⟨by omega, c_139 (by omega) (show -2147483648 ≤ x ∧ x ≤ 2147483647 from by omega) (show -2147483648 ≤ nv33 ∧ nv33 ≤ 2147483647 from by omega) (show -2147483648 ≤ nv1 ∧ nv1 ≤ 2147483647 from by omega) (fun nv34 xp34_0 => ?_)⟩
    replace xp34_0 : -2147483648 ≤ nv34 ∧ nv34 ≤ 2147483647 := xp34_0
    refine ⟨by omega, c_150_35 (by omega) xI33 (show -2147483648 ≤ nv34 ∧ nv34 ≤ 2147483647 from by omega) (fun Av35 Kv35 Tv35 xI35 => ?_)⟩
    exact q _ _ _ xI35 
  · skip
    refine ⟨by omega, c_151_35 (by omega) xI1  (fun nv36 Av36 Kv36 Tv36 xI36 xp36_0 => ?_)⟩
    replace xp36_0 : -2147483648 ≤ nv36 ∧ nv36 ≤ 2147483647 := xp36_0
    refine ⟨by omega, c_139 (by omega) (show -2147483648 ≤ x ∧ x ≤ 2147483647 from by omega) (show -2147483648 ≤ nv36 ∧ nv36 ≤ 2147483647 from by omega) (show -2147483648 ≤ nv1 ∧ nv1 ≤ 2147483647 from by omega) (fun nv37 xp37_0 => ?_)⟩
    replace xp37_0 : -2147483648 ≤ nv37 ∧ nv37 ≤ 2147483647 := xp37_0
    refine ⟨by omega, c_150_35 (by omega) xI36 (show -2147483648 ≤ nv37 ∧ nv37 ≤ 2147483647 from by omega) (fun Av38 Kv38 Tv38 xI38 => ?_)⟩
    exact q _ _ _ xI38 
  · skip
    refine ⟨by omega, c_151_35 (by omega) xI1  (fun nv39 Av39 Kv39 Tv39 xI39 xp39_0 => ?_)⟩
    replace xp39_0 : -2147483648 ≤ nv39 ∧ nv39 ≤ 2147483647 := xp39_0
    refine ⟨by omega, c_139 (by omega) (show -2147483648 ≤ x ∧ x ≤ 2147483647 from by omega) (show -2147483648 ≤ nv39 ∧ nv39 ≤ 2147483647 from by omega) (show -2147483648 ≤ nv1 ∧ nv1 ≤ 2147483647 from by omega) (fun nv40 xp40_0 => ?_)⟩
    replace xp40_0 : -2147483648 ≤ nv40 ∧ nv40 ≤ 2147483647 := xp40_0
    refine ⟨by omega, c_150_35 (by omega) xI39 (show -2147483648 ≤ nv40 ∧ nv40 ≤ 2147483647 from by omega) (fun Av41 Kv41 Tv41 xI41 => ?_)⟩
    exact q _ _ _ xI41 
  · skip
    refine ⟨by omega, c_151_35 (by omega) xI1  (fun nv42 Av42 Kv42 Tv42 xI42 xp42_0 => ?_)⟩
    replace xp42_0 : -2147483648 ≤ nv42 ∧ nv42 ≤ 2147483647 := xp42_0
    refine ⟨by omega, c_139 (by omega) (show -2147483648 ≤ x ∧ x ≤ 2147483647 from by omega) (show -2147483648 ≤ nv42 ∧ nv42 ≤ 2147483647 from by omega) (show -2147483648 ≤ nv1 ∧ nv1 ≤ 2147483647 from by omega) (fun nv43 xp43_0 => ?_)⟩
    replace xp43_0 : -2147483648 ≤ nv43 ∧ nv43 ≤ 2147483647 := xp43_0
    refine ⟨by omega, c_150_35 (by omega) xI42 (show -2147483648 ≤ nv43 ∧ nv43 ≤ 2147483647 from by omega) (fun Av44 Kv44 Tv44 xI44 => ?_)⟩
    exact q _ _ _ xI44 
  · skip
    refine ⟨by omega, c_151_35 (by omega) xI1  (fun nv45 Av45 Kv45 Tv45 xI45 xp45_0 => ?_)⟩
    replace xp45_0 : -2147483648 ≤ nv45 ∧ nv45 ≤ 2147483647 := xp45_0
    refine ⟨by omega, c_139 (by omega) (show -2147483648 ≤ x ∧ x ≤ 2147483647 from by omega) (show -2147483648 ≤ nv45 ∧ nv45 ≤ 2147483647 from by omega) (show -2147483648 ≤ nv1 ∧ nv1 ≤ 2147483647 from by omega) (fun nv46 xp46_0 => ?_)⟩
    replace xp46_0 : -2147483648 ≤ nv46 ∧ nv46 ≤ 2147483647 := xp46_0
    refine ⟨by omega, c_150_35 (by omega) xI45 (show -2147483648 ≤ nv46 ∧ nv46 ≤ 2147483647 from by omega) (fun Av47 Kv47 Tv47 xI47 => ?_)⟩
    exact q _ _ _ xI47 
  · skip
    refine ⟨by omega, c_151_35 (by omega) xI1  (fun nv48 Av48 Kv48 Tv48 xI48 xp48_0 => ?_)⟩
    replace xp48_0 : -2147483648 ≤ nv48 ∧ nv48 ≤ 2147483647 := xp48_0
    refine ⟨by omega, c_139 (by omega) (show -2147483648 ≤ x ∧ x ≤ 2147483647 from by omega) (show -2147483648 ≤ nv48 ∧ nv48 ≤ 2147483647 from by omega) (show -2147483648 ≤ nv1 ∧ nv1 ≤ 2147483647 from by omega) (fun nv49 xp49_0 => ?_)⟩
    replace xp49_0 : -2147483648 ≤ nv49 ∧ nv49 ≤ 2147483647 := xp49_0
    refine ⟨by omega, c_150_35 (by omega) xI48 (show -2147483648 ≤ nv49 ∧ nv49 ≤ 2147483647 from by omega) (fun Av50 Kv50 Tv50 xI50 => ?_)⟩
    exact q _ _ _ xI50 
  · skip
    refine ⟨by omega, c_151_35 (by omega) xI1  (fun nv51 Av51 Kv51 Tv51 xI51 xp51_0 => ?_)⟩
    replace xp51_0 : -2147483648 ≤ nv51 ∧ nv51 ≤ 2147483647 := xp51_0
    refine ⟨by omega, c_139 (by omega) (show -2147483648 ≤ x ∧ x ≤ 2147483647 from by omega) (show -2147483648 ≤ nv51 ∧ nv51 ≤ 2147483647 from by omega) (show -2147483648 ≤ nv1 ∧ nv1 ≤ 2147483647 from by omega) (fun nv52 xp52_0 => ?_)⟩
    replace xp52_0 : -2147483648 ≤ nv52 ∧ nv52 ≤ 2147483647 := xp52_0
    refine ⟨by omega, c_150_35 (by omega) xI51 (show -2147483648 ≤ nv52 ∧ nv52 ≤ 2147483647 from by omega) (fun Av53 Kv53 Tv53 xI53 => ?_)⟩
    exact q _ _ _ xI53 
  · skip
    refine ⟨by omega, c_151_35 (by omega) xI1  (fun nv54 Av54 Kv54 Tv54 xI54 xp54_0 => ?_)⟩
    replace xp54_0 : -2147483648 ≤ nv54 ∧ nv54 ≤ 2147483647 := xp54_0
    refine ⟨by omega, c_139 (by omega) (show -2147483648 ≤ x ∧ x ≤ 2147483647 from by omega) (show -2147483648 ≤ nv54 ∧ nv54 ≤ 2147483647 from by omega) (show -2147483648 ≤ nv1 ∧ nv1 ≤ 2147483647 from by omega) (fun nv55 xp55_0 => ?_)⟩
    replace xp55_0 : -2147483648 ≤ nv55 ∧ nv55 ≤ 2147483647 := xp55_0
    refine ⟨by omega, c_150_35 (by omega) xI54 (show -2147483648 ≤ nv55 ∧ nv55 ≤ 2147483647 from by omega) (fun Av56 Kv56 Tv56 xI56 => ?_)⟩
    exact q _ _ _ xI56 
  · skip
    refine ⟨by omega, c_151_35 (by omega) xI1  (fun nv57 Av57 Kv57 Tv57 xI57 xp57_0 => ?_)⟩
    replace xp57_0 : -2147483648 ≤ nv57 ∧ nv57 ≤ 2147483647 := xp57_0
    refine ⟨by omega, c_139 (by omega) (show -2147483648 ≤ x ∧ x ≤ 2147483647 from by omega) (show -2147483648 ≤ nv57 ∧ nv57 ≤ 2147483647 from by omega) (show -2147483648 ≤ nv1 ∧ nv1 ≤ 2147483647 from by omega) (fun nv58 xp58_0 => ?_)⟩
    replace xp58_0 : -2147483648 ≤ nv58 ∧ nv58 ≤ 2147483647 := xp58_0
    refine ⟨by omega, c_150_35 (by omega) xI57 (show -2147483648 ≤ nv58 ∧ nv58 ≤ 2147483647 from by omega) (fun Av59 Kv59 Tv59 xI59 => ?_)⟩
    exact q _ _ _ xI59 
  · skip
    refine ⟨by omega, c_151_35 (by omega) xI1  (fun nv60 Av60 Kv60 Tv60 xI60 xp60_0 => ?_)⟩
    replace xp60_0 : -2147483648 ≤ nv60 ∧ nv60 ≤ 2147483647 := xp60_0
    refine ⟨by omega, c_139 (by omega) (show -2147483648 ≤ x ∧ x ≤ 2147483647 from by omega) (show -2147483648 ≤ nv60 ∧ nv60 ≤ 2147483647 from by omega) (show -2147483648 ≤ nv1 ∧ nv1 ≤ 2147483647 from by omega) (fun nv61 xp61_0 => ?_)⟩
    replace xp61_0 : -2147483648 ≤ nv61 ∧ nv61 ≤ 2147483647 := xp61_0
    refine ⟨by omega, c_150_35 (by omega) xI60 (show -2147483648 ≤ nv61 ∧ nv61 ≤ 2147483647 from by omega) (fun Av62 Kv62 Tv62 xI62 => ?_)⟩
    exact q _ _ _ xI62 
  · skip
    refine ⟨by omega, c_151_35 (by omega) xI1  (fun nv63 Av63 Kv63 Tv63 xI63 xp63_0 => ?_)⟩
    replace xp63_0 : -2147483648 ≤ nv63 ∧ nv63 ≤ 2147483647 := xp63_0
    refine ⟨by omega, c_139 (by omega) (show -2147483648 ≤ x ∧ x ≤ 2147483647 from by omega) (show -2147483648 ≤ nv63 ∧ nv63 ≤ 2147483647 from by omega) (show -2147483648 ≤ nv1 ∧ nv1 ≤ 2147483647 from by omega) (fun nv64 xp64_0 => ?_)⟩
    replace xp64_0 : -2147483648 ≤ nv64 ∧ nv64 ≤ 2147483647 := xp64_0
    refine ⟨by omega, c_150_35 (by omega) xI63 (show -2147483648 ≤ nv64 ∧ nv64 ≤ 2147483647 from by omega) (fun Av65 Kv65 Tv65 xI65 => ?_)⟩
    exact q _ _ _ xI65 
  · skip
    refine ⟨by omega, c_151_35 (by omega) xI1  (fun nv66 Av66 Kv66 Tv66 xI66 xp66_0 => ?_)⟩
    replace xp66_0 : -2147483648 ≤ nv66 ∧ nv66 ≤ 2147483647 := xp66_0
    refine ⟨by omega, by omega, fun z9 => ?_, fun z9 => ?_⟩
    · skip
      refine ⟨by omega, c_140_35 (by omega) xI66 (show -2147483648 ≤ nv66 ∧ nv66 ≤ 2147483647 from by omega) (show -2147483648 ≤ nv1 ∧ nv1 ≤ 2147483647 from by omega) (show (0 : Int) = 0 ∨ (0 : Int) = 1 from by omega) (fun Av67 Kv67 Tv67 xI67 => ?_)⟩
      exact q _ _ _ xI67 
    · skip
      refine ⟨by omega, c_140_35 (by omega) xI66 (show -2147483648 ≤ nv66 ∧ nv66 ≤ 2147483647 from by omega) (show -2147483648 ≤ nv1 ∧ nv1 ≤ 2147483647 from by omega) (show (1 : Int) = 0 ∨ (1 : Int) = 1 from by omega) (fun Av68 Kv68 Tv68 xI68 => ?_)⟩
      exact q _ _ _ xI68 
  · skip
    refine ⟨by omega, c_151_35 (by omega) xI1  (fun nv69 Av69 Kv69 Tv69 xI69 xp69_0 => ?_)⟩
    replace xp69_0 : -2147483648 ≤ nv69 ∧ nv69 ≤ 2147483647 := xp69_0
    refine ⟨by omega, by omega, fun z10 => ?_, fun z10 => ?_⟩
    · skip
      refine ⟨by omega, c_140_35 (by omega) xI69 (show -2147483648 ≤ nv69 ∧ nv69 ≤ 2147483647 from by omega) (show -2147483648 ≤ nv1 ∧ nv1 ≤ 2147483647 from by omega) (show (0 : Int) = 0 ∨ (0 : Int) = 1 from by omega) (fun Av70 Kv70 Tv70 xI70 => ?_)⟩
      exact q _ _ _ xI70 
    · skip
      refine ⟨by omega, c_140_35 (by omega) xI69 (show -2147483648 ≤ nv69 ∧ nv69 ≤ 2147483647 from by omega) (show -2147483648 ≤ nv1 ∧ nv1 ≤ 2147483647 from by omega) (show (1 : Int) = 0 ∨ (1 : Int) = 1 from by omega) (fun Av71 Kv71 Tv71 xI71 => ?_)⟩
      exact q _ _ _ xI71 

set_option maxRecDepth 10000 in
set_option maxHeartbeats 400000 in
theorem c_137_35 {sz : Int} {d : Nat} {A B Y : zF} {K : Nat} {T : zT} {x : Int} {y : Int} {Q : zF → zF → zF → Nat → zT → Prop} (hd : 5 ≤ d) (hI : XI 0 sz A K T) (p1 : -2147483648 ≤ x ∧ x ≤ 2147483647) (p2 : -2147483648 ≤ y ∧ y ≤ 2147483647) (q : ∀ (A' : zF) (K' : Nat) (T' : zT), XI 0 sz A' K' T' → Q A' B Y K' T') : pzV d 137 [.inr (.inr (35 : Nat)), .inl x, .inl y] (A, B, Y, K, T) Q := by
  refine pzV_of 11 [] [] ?_
  show ((-2147483648 ≤ x ∧ x < 2147483648) ∧ ((x < (1 : Int) ∨ (11 : Int) < x) → (0 < d ∧ pzV (d - 1) 138 [.inr (.inr (35 : Nat)), .inl x, .inl y] (A, B, Y, K, T) (fun Av13 Bv13 Yv13 Kv13 Tv13 => Q Av13 Bv13 Yv13 Kv13 Tv13))) ∧ (x = (1 : Int) → (0 < d ∧ pzV (d - 1) 143 [.inr (.inr (35 : Nat))] (A, B, Y, K, T) (fun Av1 Bv1 Yv1 Kv1 Tv1 => Q Av1 Bv1 Yv1 Kv1 Tv1))) ∧ (x = (2 : Int) → (0 < d ∧ pzV (d - 1) 150 [.inr (.inr (35 : Nat)), .inl y] (A, B, Y, K, T) (fun Av2 Bv2 Yv2 Kv2 Tv2 => Q Av2 Bv2 Yv2 Kv2 Tv2))) ∧ (x = (3 : Int) → (0 < d ∧ pzI (d - 1) 141 [.inr (.inr (35 : Nat)), .inl y] (A, B, Y, K, T) (fun nv3 Av3 Bv3 Yv3 Kv3 Tv3 => (0 < d ∧ pzV (d - 1) 150 [.inr (.inr (35 : Nat)), .inl nv3] (Av3, Bv3, Yv3, Kv3, Tv3) (fun Av4 Bv4 Yv4 Kv4 Tv4 => Q Av4 Bv4 Yv4 Kv4 Tv4))))) ∧ (x = (4 : Int) → (0 < d ∧ pzI (d - 1) 151 [.inr (.inr (35 : Nat))] (A, B, Y, K, T) (fun nv5 Av5 Bv5 Yv5 Kv5 Tv5 => (0 < d ∧ pzV (d - 1) 142 [.inr (.inr (35 : Nat)), .inl y, .inl nv5] (Av5, Bv5, Yv5, Kv5, Tv5) (fun Av6 Bv6 Yv6 Kv6 Tv6 => Q Av6 Bv6 Yv6 Kv6 Tv6))))) ∧ (x = (5 : Int) → (0 < d ∧ pzV (d - 1) 146 [.inr (.inr (35 : Nat)), .inl y] (A, B, Y, K, T) (fun Av7 Bv7 Yv7 Kv7 Tv7 => Q Av7 Bv7 Yv7 Kv7 Tv7))) ∧ (x = (6 : Int) → (0 < d ∧ pzV (d - 1) 147 [.inr (.inr (35 : Nat)), .inl y] (A, B, Y, K, T) (fun Av8 Bv8 Yv8 Kv8 Tv8 => Q Av8 Bv8 Yv8 Kv8 Tv8))) ∧ (x = (7 : Int) → (0 < d ∧ pzV (d - 1) 138 [.inr (.inr (35 : Nat)), .inl x, .inl y] (A, B, Y, K, T) (fun Av9 Bv9 Yv9 Kv9 Tv9 => Q Av9 Bv9 Yv9 Kv9 Tv9))) ∧ (x = (8 : Int) → (0 < d ∧ pzI (d - 1) 151 [.inr (.inr (35 : Nat))] (A, B, Y, K, T) (fun nv10 Av10 Bv10 Yv10 Kv10 Tv10 => ((-2147483648 ≤ nv10 ∧ nv10 < 2147483648) ∧ (nv10 ≠ (0 : Int) → Q (zu Av10 35 8 (Av10 35 8)) Bv10 Yv10 Kv10 Tv10) ∧ (nv10 = (0 : Int) → Q (zu Av10 35 8 y) Bv10 Yv10 Kv10 Tv10))))) ∧ (x = (9 : Int) → Q (zu A 35 8 y) B Y K T) ∧ (x = (10 : Int) → (0 < d ∧ pzV (d - 1) 148 [.inr (.inr (35 : Nat)), .inl y] (A, B, Y, K, T) (fun Av11 Bv11 Yv11 Kv11 Tv11 => Q Av11 Bv11 Yv11 Kv11 Tv11))) ∧ (x = (11 : Int) → (0 < d ∧ pzV (d - 1) 149 [.inr (.inr (35 : Nat))] (A, B, Y, K, T) (fun Av12 Bv12 Yv12 Kv12 Tv12 => Q Av12 Bv12 Yv12 Kv12 Tv12))) ∧ True)
  refine ⟨by omega, fun z1 => ?_, fun z1 => ?_, fun z1 => ?_, fun z1 => ?_, fun z1 => ?_, fun z1 => ?_, fun z1 => ?_, fun z1 => ?_, fun z1 => ?_, fun z1 => ?_, fun z1 => ?_, fun z1 => ?_, trivial⟩
  · skip
    refine ⟨by omega, c_138_35 (by omega) hI (show -2147483648 ≤ x ∧ x ≤ 2147483647 from by omega) (show -2147483648 ≤ y ∧ y ≤ 2147483647 from by omega) (fun Av13 Kv13 Tv13 xI13 => ?_)⟩
    exact q _ _ _ xI13 
  · skip
    refine ⟨by omega, c_143_35 (by omega) hI  (fun Av1 Kv1 Tv1 xI1 => ?_)⟩
    exact q _ _ _ xI1 
  · skip
    refine ⟨by omega, c_150_35 (by omega) hI (show -2147483648 ≤ y ∧ y ≤ 2147483647 from by omega) (fun Av2 Kv2 Tv2 xI2 => ?_)⟩
    exact q _ _ _ xI2 
  · skip
    refine ⟨by omega, c_141_35 (by omega) hI (show -2147483648 ≤ y ∧ y ≤ 2147483647 from by omega) (fun nv3 xp3_0 => ?_)⟩
    replace xp3_0 : -2147483648 ≤ nv3 ∧ nv3 ≤ 2147483647 := xp3_0
    refine ⟨by omega, c_150_35 (by omega) hI (show -2147483648 ≤ nv3 ∧ nv3 ≤ 2147483647 from by omega) (fun Av4 Kv4 Tv4 xI4 => ?_)⟩
    exact q _ _ _ xI4 
  · skip
    refine ⟨by omega, c_151_35 (by omega) hI  (fun nv5 Av5 Kv5 Tv5 xI5 xp5_0 => ?_)⟩
    replace xp5_0 : -2147483648 ≤ nv5 ∧ nv5 ≤ 2147483647 := xp5_0
    refine ⟨by omega, c_142_35 (by omega) xI5 (show -2147483648 ≤ y ∧ y ≤ 2147483647 from by omega) (show -2147483648 ≤ nv5 ∧ nv5 ≤ 2147483647 from by omega) (fun Av6 Kv6 Tv6 xI6 => ?_)⟩
    exact q _ _ _ xI6 
  · skip
    refine ⟨by omega, c_146_35 (by omega) hI (show -2147483648 ≤ y ∧ y ≤ 2147483647 from by omega) (fun Av7 Kv7 Tv7 xI7 => ?_)⟩
    exact q _ _ _ xI7 
  · skip
    refine ⟨by omega, c_147_35 (by omega) hI (show -2147483648 ≤ y ∧ y ≤ 2147483647 from by omega) (fun Av8 Kv8 Tv8 xI8 => ?_)⟩
    exact q _ _ _ xI8 
  · skip
    refine ⟨by omega, c_138_35 (by omega) hI (show -2147483648 ≤ x ∧ x ≤ 2147483647 from by omega) (show -2147483648 ≤ y ∧ y ≤ 2147483647 from by omega) (fun Av9 Kv9 Tv9 xI9 => ?_)⟩
    exact q _ _ _ xI9 
  · skip
    refine ⟨by omega, c_151_35 (by omega) hI  (fun nv10 Av10 Kv10 Tv10 xI10 xp10_0 => ?_)⟩
    replace xp10_0 : -2147483648 ≤ nv10 ∧ nv10 ≤ 2147483647 := xp10_0
    refine ⟨by omega, fun z2 => ?_, fun z2 => ?_⟩
    · skip
      have f3 := XI_r_35_8 xI10
      have hI4 := XI_w_35_8 (v := (Av10 35 8)) xI10 (by omega) (by omega)
      exact q _ _ _ hI4 
    · skip
      have hI5 := XI_w_35_8 (v := y) xI10 (by omega) (by omega)
      exact q _ _ _ hI5 
  · skip
    have hI6 := XI_w_35_8 (v := y) hI (by omega) (by omega)
    exact q _ _ _ hI6 
  · skip
    refine ⟨by omega, c_148_35 (by omega) hI (show -2147483648 ≤ y ∧ y ≤ 2147483647 from by omega) (fun Av11 Kv11 Tv11 xI11 => ?_)⟩
    exact q _ _ _ xI11 
  · skip
    refine ⟨by omega, c_149_35 (by omega) hI  (fun Av12 Kv12 Tv12 xI12 => ?_)⟩
    exact q _ _ _ xI12 

set_option maxRecDepth 10000 in
set_option maxHeartbeats 400000 in
theorem c_135_35 {sz : Int} {d : Nat} {A B Y : zF} {K : Nat} {T : zT} {x : Int} {Q : zF → zF → zF → Nat → zT → Prop} (hd : 6 ≤ d) (hI : XI 0 sz A K T) (p1 : 0 ≤ x ∧ x ≤ 20000) (q : ∀ (A' : zF) (K' : Nat) (T' : zT), XI 0 sz A' K' T' → Q A' B Y K' T') : pzV d 135 [.inr (.inr (35 : Nat)), .inl x] (A, B, Y, K, T) Q := by
  have L60 : ∀ (n : Nat) (u : Int) (e : Int) (A2 : zF) (K2 : Nat) (T2 : zT), XI 0 sz A2 K2 T2 → (-9223372036854775808 ≤ u ∧ u < 9223372036854775808) → (0 ≤ e ∧ e < 9223372036854775808) → (9223372036854775808 - e) < (n : Int) → pq d 135 60 [some (.inr (.inr (35 : Nat))), some (.inl x), some (.inr (.inl u)), none, some (.inr (.inl e)), none, none] [] (A2, B, Y, K2, T2) (qV Q) := by
    intro n
    induction n with
    | zero =>
      intro u e A2 K2 T2 hI2 i0 i1 hm
      exfalso
      omega
    | succ n ih =>
      intro u e A2 K2 T2 hI2 i0 i1 hm
      refine pq_of 43 [(60, [6])] [55] ?_
      show ((-9223372036854775808 ≤ e ∧ e < 9223372036854775808) ∧ (-9223372036854775808 ≤ u ∧ u < 9223372036854775808) ∧ (e < u → ((-2147483648 ≤ (-1 : Int) ∧ (-1 : Int) < 2147483648) ∧ ((0 : Int) ≤ (-1 : Int) → Q A2 B Y K2 T2) ∧ ((-1 : Int) < (0 : Int) → ((-2147483648 ≤ (A2 35 5) ∧ (A2 35 5) < 2147483648) ∧ (-2147483648 ≤ (-1 : Int) ∧ (-1 : Int) < 2147483648) ∧ ((A2 35 5) ≠ (-1 : Int) → Q A2 B Y K2 T2) ∧ ((A2 35 5) = (-1 : Int) → ((-2147483648 ≤ (A2 35 8) ∧ (A2 35 8) < 2147483648) ∧ ((A2 35 8) < (0 : Int) → pq d 135 60 [some (.inr (.inr (35 : Nat))), some (.inl x), some (.inr (.inl u)), none, some (.inr (.inl (e + (1 : Int)))), none, none] [] ((zu A2 35 5 (0 : Int)), B, Y, K2, T2) (qV Q)) ∧ ((0 : Int) ≤ (A2 35 8) → ((-2147483648 ≤ (A2 35 8) ∧ (A2 35 8) < 2147483648) ∧ (-2147483648 ≤ (A2 2 12) ∧ (A2 2 12) < 2147483648) ∧ ((A2 35 8) < (A2 2 12) → ((0 ≤ (A2 35 8) ∧ (A2 35 8) < (3000 : Int)) ∧ ((0 ≤ (A2 35 8) ∧ (A2 35 8) < (3000 : Int)) ∧ (0 < d ∧ pzV (d - 1) 137 [.inr (.inr (35 : Nat)), .inl (A2 17 ((A2 35 8)).toNat), .inl (A2 18 ((A2 35 8)).toNat)] ((zu A2 35 8 ((A2 35 8) + (1 : Int))), B, Y, K2, T2) (fun Av101 Bv101 Yv101 Kv101 Tv101 => pq d 135 60 [some (.inr (.inr (35 : Nat))), some (.inl x), some (.inr (.inl u)), none, some (.inr (.inl (e + (1 : Int)))), none, none] [] (Av101, Bv101, Yv101, Kv101, Tv101) (qV Q)))))) ∧ ((A2 2 12) ≤ (A2 35 8) → pq d 135 60 [some (.inr (.inr (35 : Nat))), some (.inl x), some (.inr (.inl u)), none, some (.inr (.inl (e + (1 : Int)))), none, none] [] ((zu A2 35 5 (0 : Int)), B, Y, K2, T2) (qV Q)))))))))) ∧ (e = u → ((-2147483648 ≤ (0 : Int) ∧ (0 : Int) < 2147483648) ∧ ((0 : Int) ≤ (0 : Int) → Q A2 B Y K2 T2) ∧ ((0 : Int) < (0 : Int) → ((-2147483648 ≤ (A2 35 5) ∧ (A2 35 5) < 2147483648) ∧ (-2147483648 ≤ (-1 : Int) ∧ (-1 : Int) < 2147483648) ∧ ((A2 35 5) ≠ (-1 : Int) → Q A2 B Y K2 T2) ∧ ((A2 35 5) = (-1 : Int) → ((-2147483648 ≤ (A2 35 8) ∧ (A2 35 8) < 2147483648) ∧ ((A2 35 8) < (0 : Int) → pq d 135 60 [some (.inr (.inr (35 : Nat))), some (.inl x), some (.inr (.inl u)), none, some (.inr (.inl (e + (1 : Int)))), none, none] [] ((zu A2 35 5 (0 : Int)), B, Y, K2, T2) (qV Q)) ∧ ((0 : Int) ≤ (A2 35 8) → ((-2147483648 ≤ (A2 35 8) ∧ (A2 35 8) < 2147483648) ∧ (-2147483648 ≤ (A2 2 12) ∧ (A2 2 12) < 2147483648) ∧ ((A2 35 8) < (A2 2 12) → ((0 ≤ (A2 35 8) ∧ (A2 35 8) < (3000 : Int)) ∧ ((0 ≤ (A2 35 8) ∧ (A2 35 8) < (3000 : Int)) ∧ (0 < d ∧ pzV (d - 1) 137 [.inr (.inr (35 : Nat)), .inl (A2 17 ((A2 35 8)).toNat), .inl (A2 18 ((A2 35 8)).toNat)] ((zu A2 35 8 ((A2 35 8) + (1 : Int))), B, Y, K2, T2) (fun Av102 Bv102 Yv102 Kv102 Tv102 => pq d 135 60 [some (.inr (.inr (35 : Nat))), some (.inl x), some (.inr (.inl u)), none, some (.inr (.inl (e + (1 : Int)))), none, none] [] (Av102, Bv102, Yv102, Kv102, Tv102) (qV Q)))))) ∧ ((A2 2 12) ≤ (A2 35 8) → pq d 135 60 [some (.inr (.inr (35 : Nat))), some (.inl x), some (.inr (.inl u)), none, some (.inr (.inl (e + (1 : Int)))), none, none] [] ((zu A2 35 5 (0 : Int)), B, Y, K2, T2) (qV Q)))))))))) ∧ (u < e → ((-2147483648 ≤ (1 : Int) ∧ (1 : Int) < 2147483648) ∧ ((0 : Int) ≤ (1 : Int) → Q A2 B Y K2 T2) ∧ ((1 : Int) < (0 : Int) → ((-2147483648 ≤ (A2 35 5) ∧ (A2 35 5) < 2147483648) ∧ (-2147483648 ≤ (-1 : Int) ∧ (-1 : Int) < 2147483648) ∧ ((A2 35 5) ≠ (-1 : Int) → Q A2 B Y K2 T2) ∧ ((A2 35 5) = (-1 : Int) → ((-2147483648 ≤ (A2 35 8) ∧ (A2 35 8) < 2147483648) ∧ ((A2 35 8) < (0 : Int) → pq d 135 60 [some (.inr (.inr (35 : Nat))), some (.inl x), some (.inr (.inl u)), none, some (.inr (.inl (e + (1 : Int)))), none, none] [] ((zu A2 35 5 (0 : Int)), B, Y, K2, T2) (qV Q)) ∧ ((0 : Int) ≤ (A2 35 8) → ((-2147483648 ≤ (A2 35 8) ∧ (A2 35 8) < 2147483648) ∧ (-2147483648 ≤ (A2 2 12) ∧ (A2 2 12) < 2147483648) ∧ ((A2 35 8) < (A2 2 12) → ((0 ≤ (A2 35 8) ∧ (A2 35 8) < (3000 : Int)) ∧ ((0 ≤ (A2 35 8) ∧ (A2 35 8) < (3000 : Int)) ∧ (0 < d ∧ pzV (d - 1) 137 [.inr (.inr (35 : Nat)), .inl (A2 17 ((A2 35 8)).toNat), .inl (A2 18 ((A2 35 8)).toNat)] ((zu A2 35 8 ((A2 35 8) + (1 : Int))), B, Y, K2, T2) (fun Av103 Bv103 Yv103 Kv103 Tv103 => pq d 135 60 [some (.inr (.inr (35 : Nat))), some (.inl x), some (.inr (.inl u)), none, some (.inr (.inl (e + (1 : Int)))), none, none] [] (Av103, Bv103, Yv103, Kv103, Tv103) (qV Q)))))) ∧ ((A2 2 12) ≤ (A2 35 8) → pq d 135 60 [some (.inr (.inr (35 : Nat))), some (.inl x), some (.inr (.inl u)), none, some (.inr (.inl (e + (1 : Int)))), none, none] [] ((zu A2 35 5 (0 : Int)), B, Y, K2, T2) (qV Q)))))))))))
      refine ⟨by omega, by omega, fun z1 => ?_, fun z1 => ?_, fun z1 => ?_⟩
      · skip
        refine ⟨by omega, fun z2 => ?_, fun z2 => ?_⟩
        · skip
          exact absurd z2 (by decide)
        · skip
          have f3 := XI_r_35_5 hI2
          refine ⟨by omega, by omega, fun z4 => ?_, fun z4 => ?_⟩
          · skip
            exact q _ _ _ hI2 
          · skip
            have f5 := XI_r_35_8 hI2
            refine ⟨by omega, fun z6 => ?_, fun z6 => ?_⟩
            · skip
              have hI7 := XI_w_35_5 (v := (0 : Int)) hI2 (by omega) (by omega)
              exact ih (u) ((e + (1 : Int))) _ _ _ hI7 (show -9223372036854775808 ≤ u ∧ u < 9223372036854775808 from by omega) (show 0 ≤ (e + (1 : Int)) ∧ (e + (1 : Int)) < 9223372036854775808 from by omega) (by show 9223372036854775808 - (e + (1 : Int)) < _; omega)
            · skip
              have f8 := XI_r_2_12 hI2
              refine ⟨by omega, by omega, fun z9 => ?_, fun z9 => ?_⟩
              · skip
                have hI10 := XI_w_35_8 (v := ((A2 35 8) + (1 : Int))) hI2 (by omega) (by omega)
                refine ⟨by omega, ?_⟩
                have f11 := XI_r_17 hI2 (((A2 35 8)).toNat)
                refine ⟨by omega, ?_⟩
                have f12 := XI_r_18 hI2 (((A2 35 8)).toNat)
                refine ⟨by omega, c_137_35 (by omega) hI10 (show -2147483648 ≤ (A2 17 ((A2 35 8)).toNat) ∧ (A2 17 ((A2 35 8)).toNat) ≤ 2147483647 from by omega) (show -2147483648 ≤ (A2 18 ((A2 35 8)).toNat) ∧ (A2 18 ((A2 35 8)).toNat) ≤ 2147483647 from by omega) (fun Av101 Kv101 Tv101 xI101 => ?_)⟩
                exact ih (u) ((e + (1 : Int))) _ _ _ xI101 (show -9223372036854775808 ≤ u ∧ u < 9223372036854775808 from by omega) (show 0 ≤ (e + (1 : Int)) ∧ (e + (1 : Int)) < 9223372036854775808 from by omega) (by show 9223372036854775808 - (e + (1 : Int)) < _; omega)
              · skip
                have hI13 := XI_w_35_5 (v := (0 : Int)) hI2 (by omega) (by omega)
                exact ih (u) ((e + (1 : Int))) _ _ _ hI13 (show -9223372036854775808 ≤ u ∧ u < 9223372036854775808 from by omega) (show 0 ≤ (e + (1 : Int)) ∧ (e + (1 : Int)) < 9223372036854775808 from by omega) (by show 9223372036854775808 - (e + (1 : Int)) < _; omega)
      · skip
        refine ⟨by omega, fun z14 => ?_, fun z14 => ?_⟩
        · skip
          exact q _ _ _ hI2 
        · skip
          exact absurd z14 (by decide)
      · skip
        refine ⟨by omega, fun z26 => ?_, fun z26 => ?_⟩
        · skip
          exact q _ _ _ hI2 
        · skip
          exact absurd z26 (by decide)
  refine pzV_of 35 [(60, [6])] [55] ?_
  show ((-2147483648 ≤ x ∧ x < 2147483648) ∧ ((-2147483648 ≤ (A 2 12) ∧ (A 2 12) < 2147483648) ∧ (∀ cv1 : Int, -9223372036854775808 ≤ cv1 → cv1 < 9223372036854775808 → pq d 135 60 [some (.inr (.inr (35 : Nat))), some (.inl x), some (.inr (.inl cv1)), none, some (.inr (.inl (0 : Int))), none, none] [] ((zu (zu (zu (zu (zu (zu A 35 9 x) 35 3 (0 : Int)) 35 4 (0 : Int)) 35 7 (0 : Int)) 35 8 (A 2 13)) 35 5 (-1 : Int)), B, Y, K, T) (qV Q))))
  have hI1 := XI_w_35_9 (v := x) hI (by omega) (by omega)
  have hI2 := XI_w_35_3 (v := (0 : Int)) hI1 (by omega) (by omega)
  have hI3 := XI_w_35_4 (v := (0 : Int)) hI2 (by omega) (by omega)
  have hI4 := XI_w_35_7 (v := (0 : Int)) hI3 (by omega) (by omega)
  have f5 := XI_r_2_13 hI
  have hI6 := XI_w_35_8 (v := (A 2 13)) hI4 (by omega) (by omega)
  have hI7 := XI_w_35_5 (v := (-1 : Int)) hI6 (by omega) (by omega)
  refine ⟨by omega, ?_⟩
  have f8 := XI_r_2_12 hI
  refine ⟨by omega, ?_⟩
  intro cv1 w9a w9b
  exact L60 ((9223372036854775808 - (0 : Int)) + 1).toNat (cv1) ((0 : Int)) _ _ _ hI7 (show -9223372036854775808 ≤ cv1 ∧ cv1 < 9223372036854775808 from by omega) (show 0 ≤ (0 : Int) ∧ (0 : Int) < 9223372036854775808 from by omega) (by show 9223372036854775808 - (0 : Int) < _; omega)

set_option maxRecDepth 10000 in
set_option maxHeartbeats 400000 in
theorem c_136_31_35 {sz : Int} {d : Nat} {A B Y : zF} {K : Nat} {T : zT}  {Q : Int → zF → zF → zF → Nat → zT → Prop} (hd : 1 ≤ d) (hI : XI 0 sz A K T)  (q : ∀ (r : Int), (-2147483648 ≤ r ∧ r ≤ 2147483647) → Q r A B Y K T) : pzI d 136 [.inr (.inr (31 : Nat)), .inr (.inr (35 : Nat))] (A, B, Y, K, T) Q := by
  have L14 : ∀ (n : Nat) (e : Int) (k : Int), (0 ≤ e ∧ e ≤ 4000) → (0 ≤ k ∧ k ≤ 4000) → (e ≤ (A 31 3) ∧ e ≤ (A 35 3)) → (4001 - k) < (n : Int) → pq d 136 14 [some (.inr (.inr (31 : Nat))), some (.inr (.inr (35 : Nat))), some (.inl e), some (.inl k)] [] (A, B, Y, K, T) (qI Q) := by
    intro n
    induction n with
    | zero =>
      intro e k i0 i1 i2 hm
      exfalso
      omega
    | succ n ih =>
      intro e k i0 i1 i2 hm
      refine pq_of 21 [(14, [])] [] ?_
      show ((-2147483648 ≤ k ∧ k < 2147483648) ∧ (-2147483648 ≤ e ∧ e < 2147483648) ∧ (e ≤ k → ((-2147483648 ≤ (A 31 3) ∧ (A 31 3) < 2147483648) ∧ (-2147483648 ≤ (A 35 3) ∧ (A 35 3) < 2147483648) ∧ ((A 31 3) = (A 35 3) → ((-2147483648 ≤ (A 31 5) ∧ (A 31 5) < 2147483648) ∧ (-2147483648 ≤ (A 35 5) ∧ (A 35 5) < 2147483648) ∧ ((A 31 5) ≠ (A 35 5) → Q (-2 : Int) A B Y K T) ∧ ((A 31 5) = (A 35 5) → ((-2147483648 ≤ (A 31 4) ∧ (A 31 4) < 2147483648) ∧ (-2147483648 ≤ (A 35 4) ∧ (A 35 4) < 2147483648) ∧ ((A 31 4) ≠ (A 35 4) → Q (-2 : Int) A B Y K T) ∧ ((A 31 4) = (A 35 4) → Q (-1 : Int) A B Y K T))))) ∧ ((A 31 3) ≠ (A 35 3) → Q e A B Y K T))) ∧ (k < e → ((0 ≤ k ∧ k < (4000 : Int)) ∧ ((0 ≤ k ∧ k < (4000 : Int)) ∧ ((-2147483648 ≤ (A 33 (k).toNat) ∧ (A 33 (k).toNat) < 2147483648) ∧ (-2147483648 ≤ (A 37 (k).toNat) ∧ (A 37 (k).toNat) < 2147483648) ∧ ((A 33 (k).toNat) = (A 37 (k).toNat) → pq d 136 14 [some (.inr (.inr (31 : Nat))), some (.inr (.inr (35 : Nat))), some (.inl e), some (.inl (k + (1 : Int)))] [] (A, B, Y, K, T) (qI Q)) ∧ ((A 33 (k).toNat) ≠ (A 37 (k).toNat) → Q k A B Y K T))))))
      refine ⟨by omega, by omega, fun z1 => ?_, fun z1 => ?_⟩
      · skip
        have f2 := XI_r_31_3 hI
        have f3 := XI_r_35_3 hI
        refine ⟨by omega, by omega, fun z4 => ?_, fun z4 => ?_⟩
        · skip
          have f5 := XI_r_31_5 hI
          have f6 := XI_r_35_5 hI
          refine ⟨by omega, by omega, fun z7 => ?_, fun z7 => ?_⟩
          · skip
            exact q _ (show -2147483648 ≤ (-2 : Int) ∧ (-2 : Int) ≤ 2147483647 from by omega)
          · skip
            have f8 := XI_r_31_4 hI
            have f9 := XI_r_35_4 hI
            refine ⟨by omega, by omega, fun z10 => ?_, fun z10 => ?_⟩
            · skip
              exact q _ (show -2147483648 ≤ (-2 : Int) ∧ (-2 : Int) ≤ 2147483647 from by omega)
            · skip
              exact q _ (show -2147483648 ≤ (-1 : Int) ∧ (-1 : Int) ≤ 2147483647 from by omega)
        · skip
          exact q _ (show -2147483648 ≤ e ∧ e ≤ 2147483647 from by omega)
      · skip
        refine ⟨by omega, ?_⟩
        have f11 := XI_r_33 hI ((k).toNat)
        refine ⟨by omega, ?_⟩
        have f12 := XI_r_37 hI ((k).toNat)
        refine ⟨by omega, by omega, fun z13 => ?_, fun z13 => ?_⟩
        · skip
          exact ih (e) ((k + (1 : Int))) (show 0 ≤ e ∧ e ≤ 4000 from by omega) (show 0 ≤ (k + (1 : Int)) ∧ (k + (1 : Int)) ≤ 4000 from by omega) (show e ≤ (A 31 3) ∧ e ≤ (A 35 3) from by omega) (by show 4001 - (k + (1 : Int)) < _; omega)
        · skip
          exact q _ (show -2147483648 ≤ k ∧ k ≤ 2147483647 from by omega)
  refine pzI_of 8 [(14, [])] [] ?_
  show (0 < d ∧ pzI (d - 1) 172 [.inl (A 31 3), .inl (A 35 3)] (A, B, Y, K, T) (fun nv1 Av1 Bv1 Yv1 Kv1 Tv1 => pq d 136 14 [some (.inr (.inr (31 : Nat))), some (.inr (.inr (35 : Nat))), some (.inl nv1), some (.inl (0 : Int))] [] (Av1, Bv1, Yv1, Kv1, Tv1) (qI Q)))
  have f1 := XI_r_31_3 hI
  have f2 := XI_r_35_3 hI
  refine ⟨by omega, c_172 (by omega) (show -2147483648 ≤ (A 31 3) ∧ (A 31 3) ≤ 2147483647 from by omega) (show -2147483648 ≤ (A 35 3) ∧ (A 35 3) ≤ 2147483647 from by omega) (fun nv1 xp1_0 => ?_)⟩
  replace xp1_0 : (nv1 = (A 31 3) ∨ nv1 = (A 35 3)) ∧ nv1 ≤ (A 31 3) ∧ nv1 ≤ (A 35 3) := xp1_0
  exact L14 ((4001 - (0 : Int)) + 1).toNat (nv1) ((0 : Int)) (show 0 ≤ nv1 ∧ nv1 ≤ 4000 from by omega) (show 0 ≤ (0 : Int) ∧ (0 : Int) ≤ 4000 from by omega) (show nv1 ≤ (A 31 3) ∧ nv1 ≤ (A 35 3) from by omega) (by show 4001 - (0 : Int) < _; omega)

