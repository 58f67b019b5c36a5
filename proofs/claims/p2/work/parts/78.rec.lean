/-! The class: expressions and statements -/
def EC (sz : Int) (B Y : zF) (op : Int) : Prop := ∀ (d : Nat) (A : zF) (K : Nat) (T : zT) (Q : Int → zF → zF → zF → Nat → zT → Prop), 20 * (11 - op) + 30 ≤ (d : Int) → XI 1 sz A K T → (∀ (r : Int) (A' : zF) (K' : Nat) (T' : zT), XI 1 sz A' K' T' → (r = 0 ∨ r = 1) → Q r A' B Y K' T') → pzI d 121 [.inr (.inr 19), .inl op] (A, B, Y, K, T) Q
def PC (sz : Int) (B Y : zF) (op : Int) : Prop := ∀ (d : Nat) (A : zF) (K : Nat) (T : zT) (Q : Int → zF → zF → zF → Nat → zT → Prop), 20 * (11 - op) + 30 ≤ (d : Int) → XI 1 sz A K T → (∀ (r : Int) (A' : zF) (K' : Nat) (T' : zT), XI 1 sz A' K' T' → (r = 0 ∨ r = 1) → Q r A' B Y K' T') → pzI d 123 [.inr (.inr 19), .inl op] (A, B, Y, K, T) Q
def BC (sz : Int) (B Y : zF) (op lv : Int) : Prop := ∀ (d : Nat) (A : zF) (K : Nat) (T : zT) (Q : Int → zF → zF → zF → Nat → zT → Prop), 20 * (10 - op) + 46 - lv ≤ (d : Int) → XI 1 sz A K T → (∀ (r : Int) (A' : zF) (K' : Nat) (T' : zT), XI 1 sz A' K' T' → (r = 0 ∨ r = 1) → Q r A' B Y K' T') → pzI d 122 [.inr (.inr 19), .inl lv, .inl op] (A, B, Y, K, T) Q
def SC (sz : Int) (B Y : zF) (op : Int) : Prop := ∀ (d : Nat) (A : zF) (K : Nat) (T : zT) (Q : zF → zF → zF → Nat → zT → Prop), 10 * (11 - op) + 300 ≤ (d : Int) → XI 1 sz A K T → (∀ (A' : zF) (K' : Nat) (T' : zT), XI 1 sz A' K' T' → Q A' B Y K' T') → pzV d 113 [.inr (.inr 19), .inl op] (A, B, Y, K, T) Q
set_option maxRecDepth 10000 in
set_option maxHeartbeats 400000 in
theorem c_128_19 {sz : Int} {d : Nat} {A B Y : zF} {K : Nat} {T : zT} {x : Int} {y : Int} {op : Int} {Q : zF → zF → zF → Nat → zT → Prop} (HE : EC sz B Y op) (hd : 20 * (11 - op) + 31 ≤ (d : Int)) (hI : XI 1 sz A K T) (p1 : -2147483648 ≤ x ∧ x ≤ 2147483647) (p2 : -2147483648 ≤ y ∧ y ≤ 2147483647) (p3 : 0 ≤ op ∧ op ≤ 10) (q : ∀ (A' : zF) (K' : Nat) (T' : zT), XI 1 sz A' K' T' → Q A' B Y K' T') : pzV d 128 [.inr (.inr (19 : Nat)), .inl x, .inl y, .inl op] (A, B, Y, K, T) Q := by
  refine pzV_of 18 [] [] ?_
  show (0 < d ∧ pzI (d - 1) 121 [.inr (.inr (19 : Nat)), .inl op] (A, B, Y, K, T) (fun nv1 Av1 Bv1 Yv1 Kv1 Tv1 => ((-2147483648 ≤ nv1 ∧ nv1 < 2147483648) ∧ (nv1 = (0 : Int) → Q Av1 Bv1 Yv1 Kv1 Tv1) ∧ (nv1 ≠ (0 : Int) → (0 < d ∧ pzI (d - 1) 81 [.inr (.inr (2 : Nat)), .inl x, .inl y] (Av1, Bv1, Yv1, Kv1, Tv1) (fun nv2 Av2 Bv2 Yv2 Kv2 Tv2 => ((-2147483648 ≤ nv2 ∧ nv2 < 2147483648) ∧ (nv2 ≠ (0 : Int) → Q Av2 Bv2 Yv2 Kv2 Tv2) ∧ (nv2 = (0 : Int) → (0 < d ∧ pzV (d - 1) 103 [.inr (.inr (19 : Nat)), .inl (8 : Int), .inl (A 19 10)] (Av2, Bv2, Yv2, Kv2, Tv2) (fun Av3 Bv3 Yv3 Kv3 Tv3 => Q Av3 Bv3 Yv3 Kv3 Tv3))))))))))
  have f1 := XI_r_19_10 hI
  refine ⟨by omega, HE _ _ _ _ _ (by omega) hI  (fun nv1 Av1 Kv1 Tv1 xI1 xp1_0 => ?_)⟩
  replace xp1_0 : nv1 = 0 ∨ nv1 = 1 := xp1_0
  refine ⟨by omega, fun z2 => ?_, fun z2 => ?_⟩
  · skip
    exact q _ _ _ xI1 
  · skip
    refine ⟨by omega, c_81_2 (by omega) xI1 (show -2147483648 ≤ x ∧ x ≤ 2147483647 from by omega) (show -2147483648 ≤ y ∧ y ≤ 2147483647 from by omega) (fun nv2 xp2_0 => ?_)⟩
    replace xp2_0 : nv2 = 0 ∨ nv2 = 1 := xp2_0
    refine ⟨by omega, fun z3 => ?_, fun z3 => ?_⟩
    · skip
      exact q _ _ _ xI1 
    · skip
      refine ⟨by omega, c_103_19 (by omega) xI1 (show 1 ≤ (8 : Int) ∧ (8 : Int) ≤ 9 from by omega) (show 0 ≤ (A 19 10) ∧ (A 19 10) ≤ 3000 from by omega) (fun Av3 Kv3 Tv3 xI3 => ?_)⟩
      exact q _ _ _ xI3 

set_option maxRecDepth 10000 in
set_option maxHeartbeats 400000 in
theorem c_127_19 {sz : Int} {d : Nat} {A B Y : zF} {K : Nat} {T : zT} {x : Int} {op : Int} {Q : Int → zF → zF → zF → Nat → zT → Prop} (HE : EC sz B Y op) (hd : 20 * (11 - op) + 32 ≤ (d : Int)) (hI : XI 1 sz A K T) (p1 : -2147483648 ≤ x ∧ x ≤ 2147483647) (p2 : 0 ≤ op ∧ op ≤ 10) (q : ∀ (r : Int) (A' : zF) (K' : Nat) (T' : zT), XI 1 sz A' K' T' → (0 ≤ r ∧ r ≤ 3001) → Q r A' B Y K' T') : pzI d 127 [.inr (.inr (19 : Nat)), .inl x, .inl op] (A, B, Y, K, T) Q := by
  have L14 : ∀ (n : Nat) (k : Int) (e : Int) (A2 : zF) (K2 : Nat) (T2 : zT), XI 1 sz A2 K2 T2 → (0 ≤ e ∧ e ≤ 3000) → (0 ≤ k ∧ k + e ≤ 3001) → (e) < (n : Int) → pq d 127 14 [some (.inr (.inr (19 : Nat))), some (.inl x), some (.inl op), some (.inl k), some (.inl e)] [] (A2, B, Y, K2, T2) (qI Q) := by
    intro n
    induction n with
    | zero =>
      intro k e A2 K2 T2 hI2 i0 i1 hm
      exfalso
      omega
    | succ n ih =>
      intro k e A2 K2 T2 hI2 i0 i1 hm
      refine pq_of 16 [(14, [])] [] ?_
      show ((-2147483648 ≤ e ∧ e < 2147483648) ∧ (e ≤ (0 : Int) → Q k A2 B Y K2 T2) ∧ ((0 : Int) < e → ((1000 ≤ K2 ∧ K2 < 1064) ∧ (1000 ≤ (1038 : Nat) ∧ (1038 : Nat) < 1064) ∧ (K2 ≠ (1038 : Nat) → Q k A2 B Y K2 T2) ∧ (K2 = (1038 : Nat) → (0 < d ∧ pzV (d - 1) 100 [.inr (.inr (19 : Nat))] (A2, B, Y, K2, T2) (fun Av101 Bv101 Yv101 Kv101 Tv101 => (0 < d ∧ pzV (d - 1) 128 [.inr (.inr (19 : Nat)), .inl x, .inl k, .inl op] (Av101, Bv101, Yv101, Kv101, Tv101) (fun Av102 Bv102 Yv102 Kv102 Tv102 => pq d 127 14 [some (.inr (.inr (19 : Nat))), some (.inl x), some (.inl op), some (.inl (k + (1 : Int))), some (.inl (e + (-1 : Int)))] [] (Av102, Bv102, Yv102, Kv102, Tv102) (qI Q)))))))))
      refine ⟨by omega, fun z1 => ?_, fun z1 => ?_⟩
      · skip
        exact q _ _ _ _ hI2 (show 0 ≤ k ∧ k ≤ 3001 from by omega)
      · skip
        have f2 := XI_rK hI2
        refine ⟨by omega, by omega, fun z3 => ?_, fun z3 => ?_⟩
        · skip
          exact q _ _ _ _ hI2 (show 0 ≤ k ∧ k ≤ 3001 from by omega)
        · skip
          refine ⟨by omega, c_100_19 (by omega) hI2  (fun Av101 Kv101 Tv101 xI101 xp101_0 => ?_)⟩
          replace xp101_0 : (Av101 19 6) = (A2 19 6) := xp101_0
          refine ⟨by omega, c_128_19 HE (by omega) xI101 (show -2147483648 ≤ x ∧ x ≤ 2147483647 from by omega) (show -2147483648 ≤ k ∧ k ≤ 2147483647 from by omega) (show 0 ≤ op ∧ op ≤ 10 from by omega) (fun Av102 Kv102 Tv102 xI102 => ?_)⟩
          exact ih ((k + (1 : Int))) ((e + (-1 : Int))) _ _ _ xI102 (show 0 ≤ (e + (-1 : Int)) ∧ (e + (-1 : Int)) ≤ 3000 from by omega) (show 0 ≤ (k + (1 : Int)) ∧ (k + (1 : Int)) + (e + (-1 : Int)) ≤ 3001 from by omega) (by show (e + (-1 : Int)) < _; omega)
  refine pzI_of 9 [(14, [])] [] ?_
  show (0 < d ∧ pzV (d - 1) 128 [.inr (.inr (19 : Nat)), .inl x, .inl (0 : Int), .inl op] (A, B, Y, K, T) (fun Av1 Bv1 Yv1 Kv1 Tv1 => pq d 127 14 [some (.inr (.inr (19 : Nat))), some (.inl x), some (.inl op), some (.inl (1 : Int)), some (.inl (3000 : Int))] [] (Av1, Bv1, Yv1, Kv1, Tv1) (qI Q)))
  refine ⟨by omega, c_128_19 HE (by omega) hI (show -2147483648 ≤ x ∧ x ≤ 2147483647 from by omega) (show -2147483648 ≤ (0 : Int) ∧ (0 : Int) ≤ 2147483647 from by omega) (show 0 ≤ op ∧ op ≤ 10 from by omega) (fun Av1 Kv1 Tv1 xI1 => ?_)⟩
  exact L14 (((3000 : Int)) + 1).toNat ((1 : Int)) ((3000 : Int)) _ _ _ xI1 (show 0 ≤ (3000 : Int) ∧ (3000 : Int) ≤ 3000 from by omega) (show 0 ≤ (1 : Int) ∧ (1 : Int) + (3000 : Int) ≤ 3001 from by omega) (by show (3000 : Int) < _; omega)

set_option maxRecDepth 10000 in
set_option maxHeartbeats 400000 in
theorem c_120_19 {sz : Int} {d : Nat} {A B Y : zF} {K : Nat} {T : zT} {op : Int} {Q : zF → zF → zF → Nat → zT → Prop} (HE : EC sz B Y op) (hd : 20 * (11 - op) + 31 ≤ (d : Int)) (hI : XI 1 sz A K T) (p1 : 0 ≤ op ∧ op ≤ 10) (q : ∀ (A' : zF) (K' : Nat) (T' : zT), XI 1 sz A' K' T' → Q A' B Y K' T') : pzV d 120 [.inr (.inr (19 : Nat)), .inl op] (A, B, Y, K, T) Q := by
  refine pzV_of 17 [] [] ?_
  show (0 < d ∧ pzV (d - 1) 100 [.inr (.inr (19 : Nat))] (A, B, Y, K, T) (fun Av1 Bv1 Yv1 Kv1 Tv1 => (0 < d ∧ pzI (d - 1) 121 [.inr (.inr (19 : Nat)), .inl op] (Av1, Bv1, Yv1, Kv1, Tv1) (fun nv2 Av2 Bv2 Yv2 Kv2 Tv2 => ((-2147483648 ≤ nv2 ∧ nv2 < 2147483648) ∧ (nv2 = (0 : Int) → (0 < d ∧ pzV (d - 1) 101 [.inr (.inr (19 : Nat)), .inr (.inr (1034 : Nat))] (Av2, Bv2, Yv2, Kv2, Tv2) (fun Av3 Bv3 Yv3 Kv3 Tv3 => Q Av3 Bv3 Yv3 Kv3 Tv3))) ∧ (nv2 ≠ (0 : Int) → (0 < d ∧ pzV (d - 1) 103 [.inr (.inr (19 : Nat)), .inl (7 : Int), .inl (A 19 10)] (Av2, Bv2, Yv2, Kv2, Tv2) (fun Av4 Bv4 Yv4 Kv4 Tv4 => (0 < d ∧ pzV (d - 1) 101 [.inr (.inr (19 : Nat)), .inr (.inr (1034 : Nat))] (Av4, Bv4, Yv4, Kv4, Tv4) (fun Av5 Bv5 Yv5 Kv5 Tv5 => Q Av5 Bv5 Yv5 Kv5 Tv5))))))))))
  have f1 := XI_r_19_10 hI
  refine ⟨by omega, c_100_19 (by omega) hI  (fun Av1 Kv1 Tv1 xI1 xp1_0 => ?_)⟩
  replace xp1_0 : (Av1 19 6) = (A 19 6) := xp1_0
  refine ⟨by omega, HE _ _ _ _ _ (by omega) xI1  (fun nv2 Av2 Kv2 Tv2 xI2 xp2_0 => ?_)⟩
  replace xp2_0 : nv2 = 0 ∨ nv2 = 1 := xp2_0
  refine ⟨by omega, fun z2 => ?_, fun z2 => ?_⟩
  · skip
    refine ⟨by omega, c_101_19 (by omega) xI2 (show 1000 ≤ (1034 : Nat) ∧ (1034 : Nat) < 1039 from by omega) (fun Av3 Kv3 Tv3 xI3 => ?_)⟩
    exact q _ _ _ xI3 
  · skip
    refine ⟨by omega, c_103_19 (by omega) xI2 (show 1 ≤ (7 : Int) ∧ (7 : Int) ≤ 9 from by omega) (show 0 ≤ (A 19 10) ∧ (A 19 10) ≤ 3000 from by omega) (fun Av4 Kv4 Tv4 xI4 => ?_)⟩
    refine ⟨by omega, c_101_19 (by omega) xI4 (show 1000 ≤ (1034 : Nat) ∧ (1034 : Nat) < 1039 from by omega) (fun Av5 Kv5 Tv5 xI5 => ?_)⟩
    exact q _ _ _ xI5 

set_option maxRecDepth 10000 in
set_option maxHeartbeats 400000 in
theorem c_126_19 {sz : Int} {d : Nat} {A B Y : zF} {K : Nat} {T : zT} {x : Int} {op : Int} {Q : Int → zF → zF → zF → Nat → zT → Prop} (HE : op ≤ 9 → EC sz B Y (op + 1)) (hd : 20 * (10 - op) + 33 ≤ (d : Int)) (hI : XI 1 sz A K T) (p1 : 0 ≤ x ∧ x ≤ 3000) (p2 : 0 ≤ op ∧ op ≤ 10) (q : ∀ (r : Int) (A' : zF) (K' : Nat) (T' : zT), XI 1 sz A' K' T' → (r = 0 ∨ r = 1) → Q r A' B Y K' T') : pzI d 126 [.inr (.inr (19 : Nat)), .inl x, .inl op] (A, B, Y, K, T) Q := by
  refine pzI_of 73 [] [] ?_
  show ((0 ≤ x ∧ x < (3001 : Int)) ∧ ((0 ≤ x ∧ x < (3001 : Int)) ∧ (0 < d ∧ pzI (d - 1) 65 [.inr (.inr (10 : Nat)), .inl (A 22 (x).toNat), .inl (A 23 (x).toNat)] (A, B, Y, K, T) (fun nv1 Av1 Bv1 Yv1 Kv1 Tv1 => ((-2147483648 ≤ nv1 ∧ nv1 < 2147483648) ∧ (-2147483648 ≤ (-1 : Int) ∧ (-1 : Int) < 2147483648) ∧ (nv1 ≠ (-1 : Int) → (0 < d ∧ pzI (d - 1) 104 [.inr (.inr (19 : Nat)), .inl op, .inl (Av1 19 10)] (Av1, Bv1, Yv1, Kv1, Tv1) (fun nv2 Av2 Bv2 Yv2 Kv2 Tv2 => ((-2147483648 ≤ nv2 ∧ nv2 < 2147483648) ∧ (nv2 ≠ (0 : Int) → (0 < d ∧ pzV (d - 1) 100 [.inr (.inr (19 : Nat))] (Av2, Bv2, Yv2, Kv2, Tv2) (fun Av3 Bv3 Yv3 Kv3 Tv3 => ((1000 ≤ Kv3 ∧ Kv3 < 1064) ∧ (1000 ≤ (1032 : Nat) ∧ (1032 : Nat) < 1064) ∧ (Kv3 ≠ (1032 : Nat) → (0 < d ∧ pzI (d - 1) 127 [.inr (.inr (19 : Nat)), .inl nv1, .inl (op + (1 : Int))] (Av3, Bv3, Yv3, Kv3, Tv3) (fun nv4 Av4 Bv4 Yv4 Kv4 Tv4 => ((1000 ≤ Kv4 ∧ Kv4 < 1064) ∧ (1000 ≤ (1032 : Nat) ∧ (1032 : Nat) < 1064) ∧ (Kv4 ≠ (1032 : Nat) → (0 < d ∧ pzV (d - 1) 101 [.inr (.inr (19 : Nat)), .inr (.inr (1032 : Nat))] (Av4, Bv4, Yv4, Kv4, Tv4) (fun Av5 Bv5 Yv5 Kv5 Tv5 => (0 < d ∧ pzI (d - 1) 82 [.inr (.inr (2 : Nat)), .inl (1 : Int), .inl (0 : Int)] (Av5, Bv5, Yv5, Kv5, Tv5) (fun nv6 Av6 Bv6 Yv6 Kv6 Tv6 => (0 < d ∧ pzI (d - 1) 82 [.inr (.inr (2 : Nat)), .inl (10 : Int), .inl nv1] (Av6, Bv6, Yv6, Kv6, Tv6) (fun nv7 Av7 Bv7 Yv7 Kv7 Tv7 => (0 < d ∧ pzI (d - 1) 67 [.inr (.inr (10 : Nat)), .inl nv1] (Av7, Bv7, Yv7, Kv7, Tv7) (fun nv8 Av8 Bv8 Yv8 Kv8 Tv8 => ((nv8 = 0 ∨ nv8 = 1) ∧ Q nv8 Av8 Bv8 Yv8 Kv8 Tv8)))))))))) ∧ (Kv4 = (1032 : Nat) → (0 < d ∧ pzI (d - 1) 80 [.inr (.inr (2 : Nat)), .inl nv1] (Av4, Bv4, Yv4, Kv4, Tv4) (fun nv9 Av9 Bv9 Yv9 Kv9 Tv9 => ((-2147483648 ≤ nv4 ∧ nv4 < 2147483648) ∧ (-2147483648 ≤ nv9 ∧ nv9 < 2147483648) ∧ (nv4 = nv9 → (0 < d ∧ pzV (d - 1) 101 [.inr (.inr (19 : Nat)), .inr (.inr (1032 : Nat))] (Av9, Bv9, Yv9, Kv9, Tv9) (fun Av10 Bv10 Yv10 Kv10 Tv10 => (0 < d ∧ pzI (d - 1) 82 [.inr (.inr (2 : Nat)), .inl (1 : Int), .inl (0 : Int)] (Av10, Bv10, Yv10, Kv10, Tv10) (fun nv11 Av11 Bv11 Yv11 Kv11 Tv11 => (0 < d ∧ pzI (d - 1) 82 [.inr (.inr (2 : Nat)), .inl (10 : Int), .inl nv1] (Av11, Bv11, Yv11, Kv11, Tv11) (fun nv12 Av12 Bv12 Yv12 Kv12 Tv12 => (0 < d ∧ pzI (d - 1) 67 [.inr (.inr (10 : Nat)), .inl nv1] (Av12, Bv12, Yv12, Kv12, Tv12) (fun nv13 Av13 Bv13 Yv13 Kv13 Tv13 => ((nv13 = 0 ∨ nv13 = 1) ∧ Q nv13 Av13 Bv13 Yv13 Kv13 Tv13)))))))))) ∧ (nv4 ≠ nv9 → (0 < d ∧ pzV (d - 1) 102 [.inr (.inr (19 : Nat)), .inl (5 : Int), .inl (Av9 19 10)] (Av9, Bv9, Yv9, Kv9, Tv9) (fun Av14 Bv14 Yv14 Kv14 Tv14 => (0 < d ∧ pzV (d - 1) 101 [.inr (.inr (19 : Nat)), .inr (.inr (1032 : Nat))] (Av14, Bv14, Yv14, Kv14, Tv14) (fun Av15 Bv15 Yv15 Kv15 Tv15 => (0 < d ∧ pzI (d - 1) 82 [.inr (.inr (2 : Nat)), .inl (1 : Int), .inl (0 : Int)] (Av15, Bv15, Yv15, Kv15, Tv15) (fun nv16 Av16 Bv16 Yv16 Kv16 Tv16 => (0 < d ∧ pzI (d - 1) 82 [.inr (.inr (2 : Nat)), .inl (10 : Int), .inl nv1] (Av16, Bv16, Yv16, Kv16, Tv16) (fun nv17 Av17 Bv17 Yv17 Kv17 Tv17 => (0 < d ∧ pzI (d - 1) 67 [.inr (.inr (10 : Nat)), .inl nv1] (Av17, Bv17, Yv17, Kv17, Tv17) (fun nv18 Av18 Bv18 Yv18 Kv18 Tv18 => ((nv18 = 0 ∨ nv18 = 1) ∧ Q nv18 Av18 Bv18 Yv18 Kv18 Tv18)))))))))))))))))))) ∧ (Kv3 = (1032 : Nat) → ((1000 ≤ Kv3 ∧ Kv3 < 1064) ∧ (1000 ≤ (1032 : Nat) ∧ (1032 : Nat) < 1064) ∧ (Kv3 ≠ (1032 : Nat) → (0 < d ∧ pzV (d - 1) 101 [.inr (.inr (19 : Nat)), .inr (.inr (1032 : Nat))] (Av3, Bv3, Yv3, Kv3, Tv3) (fun Av19 Bv19 Yv19 Kv19 Tv19 => (0 < d ∧ pzI (d - 1) 82 [.inr (.inr (2 : Nat)), .inl (1 : Int), .inl (0 : Int)] (Av19, Bv19, Yv19, Kv19, Tv19) (fun nv20 Av20 Bv20 Yv20 Kv20 Tv20 => (0 < d ∧ pzI (d - 1) 82 [.inr (.inr (2 : Nat)), .inl (10 : Int), .inl nv1] (Av20, Bv20, Yv20, Kv20, Tv20) (fun nv21 Av21 Bv21 Yv21 Kv21 Tv21 => (0 < d ∧ pzI (d - 1) 67 [.inr (.inr (10 : Nat)), .inl nv1] (Av21, Bv21, Yv21, Kv21, Tv21) (fun nv22 Av22 Bv22 Yv22 Kv22 Tv22 => ((nv22 = 0 ∨ nv22 = 1) ∧ Q nv22 Av22 Bv22 Yv22 Kv22 Tv22)))))))))) ∧ (Kv3 = (1032 : Nat) → (0 < d ∧ pzI (d - 1) 80 [.inr (.inr (2 : Nat)), .inl nv1] (Av3, Bv3, Yv3, Kv3, Tv3) (fun nv23 Av23 Bv23 Yv23 Kv23 Tv23 => ((-2147483648 ≤ (0 : Int) ∧ (0 : Int) < 2147483648) ∧ (-2147483648 ≤ nv23 ∧ nv23 < 2147483648) ∧ ((0 : Int) = nv23 → (0 < d ∧ pzV (d - 1) 101 [.inr (.inr (19 : Nat)), .inr (.inr (1032 : Nat))] (Av23, Bv23, Yv23, Kv23, Tv23) (fun Av24 Bv24 Yv24 Kv24 Tv24 => (0 < d ∧ pzI (d - 1) 82 [.inr (.inr (2 : Nat)), .inl (1 : Int), .inl (0 : Int)] (Av24, Bv24, Yv24, Kv24, Tv24) (fun nv25 Av25 Bv25 Yv25 Kv25 Tv25 => (0 < d ∧ pzI (d - 1) 82 [.inr (.inr (2 : Nat)), .inl (10 : Int), .inl nv1] (Av25, Bv25, Yv25, Kv25, Tv25) (fun nv26 Av26 Bv26 Yv26 Kv26 Tv26 => (0 < d ∧ pzI (d - 1) 67 [.inr (.inr (10 : Nat)), .inl nv1] (Av26, Bv26, Yv26, Kv26, Tv26) (fun nv27 Av27 Bv27 Yv27 Kv27 Tv27 => ((nv27 = 0 ∨ nv27 = 1) ∧ Q nv27 Av27 Bv27 Yv27 Kv27 Tv27)))))))))) ∧ ((0 : Int) ≠ nv23 → (0 < d ∧ pzV (d - 1) 102 [.inr (.inr (19 : Nat)), .inl (5 : Int), .inl (Av23 19 10)] (Av23, Bv23, Yv23, Kv23, Tv23) (fun Av28 Bv28 Yv28 Kv28 Tv28 => (0 < d ∧ pzV (d - 1) 101 [.inr (.inr (19 : Nat)), .inr (.inr (1032 : Nat))] (Av28, Bv28, Yv28, Kv28, Tv28) (fun Av29 Bv29 Yv29 Kv29 Tv29 => (0 < d ∧ pzI (d - 1) 82 [.inr (.inr (2 : Nat)), .inl (1 : Int), .inl (0 : Int)] (Av29, Bv29, Yv29, Kv29, Tv29) (fun nv30 Av30 Bv30 Yv30 Kv30 Tv30 => (0 < d ∧ pzI (d - 1) 82 [.inr (.inr (2 : Nat)), .inl (10 : Int), .inl nv1] (Av30, Bv30, Yv30, Kv30, Tv30) (fun nv31 Av31 Bv31 Yv31 Kv31 Tv31 => (0 < d ∧ pzI (d - 1) 67 [.inr (.inr (10 : Nat)), .inl nv1] (Av31, Bv31, Yv31, Kv31, Tv31) (fun nv32 Av32 Bv32 Yv32 Kv32 Tv32 => ((nv32 = 0 ∨ nv32 = 1) ∧ Q nv32 Av32 Bv32 Yv32 Kv32 Tv32)))))))))))))))))))))) ∧ (nv2 = (0 : Int) → (((0 : Int) = 0 ∨ (0 : Int) = 1) ∧ Q (0 : Int) Av2 Bv2 Yv2 Kv2 Tv2)))))) ∧ (nv1 = (-1 : Int) → ((0 ≤ x ∧ x < (3001 : Int)) ∧ (0 < d ∧ pzV (d - 1) 102 [.inr (.inr (19 : Nat)), .inl (2 : Int), .inl (Av1 22 (x).toNat)] (Av1, Bv1, Yv1, Kv1, Tv1) (fun Av33 Bv33 Yv33 Kv33 Tv33 => (((0 : Int) = 0 ∨ (0 : Int) = 1) ∧ Q (0 : Int) Av33 Bv33 Yv33 Kv33 Tv33))))))))))
  refine ⟨by omega, ?_⟩
  have f1 := XI_r_22 hI ((x).toNat)
  refine ⟨by omega, ?_⟩
  have f2 := XI_r_23 hI ((x).toNat)
  refine ⟨by omega, c_65_10 (by omega) hI (show 0 ≤ (A 22 (x).toNat) ∧ (A 22 (x).toNat) ≤ 3000 from by omega) (show -3000 ≤ (A 23 (x).toNat) ∧ (A 23 (x).toNat) ≤ 3000 from by omega) (fun nv1 xp1_0 => ?_)⟩
  replace xp1_0 : -1 ≤ nv1 ∧ nv1 < 6 := xp1_0
  refine ⟨by omega, by omega, fun z3 => ?_, fun z3 => ?_⟩
  · skip
    have f4 := XI_r_19_10 hI
    refine ⟨by omega, c_104_19 (by omega) hI (show 0 ≤ op ∧ op ≤ 10 from by omega) (show 0 ≤ (A 19 10) ∧ (A 19 10) ≤ 3000 from by omega) (fun nv2 Av2 Kv2 Tv2 xI2 xp2_0 => ?_)⟩
    replace xp2_0 : (nv2 = 1 ∧ op ≤ 9) ∨ nv2 = 0 := xp2_0
    refine ⟨by omega, fun z5 => ?_, fun z5 => ?_⟩
    · skip
      refine ⟨by omega, c_100_19 (by omega) xI2  (fun Av3 Kv3 Tv3 xI3 xp3_0 => ?_)⟩
      replace xp3_0 : (Av3 19 6) = (Av2 19 6) := xp3_0
      have f6 := XI_rK xI3
      refine ⟨by omega, by omega, fun z7 => ?_, fun z7 => ?_⟩
      · skip
        refine ⟨by omega, c_127_19 (HE (by omega)) (by omega) xI3 (show -2147483648 ≤ nv1 ∧ nv1 ≤ 2147483647 from by omega) (show 0 ≤ (op + (1 : Int)) ∧ (op + (1 : Int)) ≤ 10 from by omega) (fun nv4 Av4 Kv4 Tv4 xI4 xp4_0 => ?_)⟩
        replace xp4_0 : 0 ≤ nv4 ∧ nv4 ≤ 3001 := xp4_0
        have f8 := XI_rK xI4
        refine ⟨by omega, by omega, fun z9 => ?_, fun z9 => ?_⟩
        · skip
          refine ⟨by omega, c_101_19 (by omega) xI4 (show 1000 ≤ (1032 : Nat) ∧ (1032 : Nat) < 1039 from by omega) (fun Av5 Kv5 Tv5 xI5 => ?_)⟩
          refine ⟨by omega, c_82_2 (by omega) xI5 (show -2147483648 ≤ (1 : Int) ∧ (1 : Int) ≤ 2147483647 from by omega) (show -2147483648 ≤ (0 : Int) ∧ (0 : Int) ≤ 2147483647 from by omega) (fun nv6 Av6 Kv6 Tv6 xI6 xp6_0 => ?_)⟩
          replace xp6_0 : -1 ≤ nv6 ∧ nv6 < 3000 := xp6_0
          refine ⟨by omega, c_82_2 (by omega) xI6 (show -2147483648 ≤ (10 : Int) ∧ (10 : Int) ≤ 2147483647 from by omega) (show -2147483648 ≤ nv1 ∧ nv1 ≤ 2147483647 from by omega) (fun nv7 Av7 Kv7 Tv7 xI7 xp7_0 => ?_)⟩
          replace xp7_0 : -1 ≤ nv7 ∧ nv7 < 3000 := xp7_0
          refine ⟨by omega, c_67_10 (by omega) xI7 (show -2147483648 ≤ nv1 ∧ nv1 ≤ 2147483647 from by omega) (fun nv8 xp8_0 => ?_)⟩
          replace xp8_0 : nv8 = 0 ∨ nv8 = 1 := xp8_0
          exact ⟨by omega, q _ _ _ _ xI7 (show nv8 = 0 ∨ nv8 = 1 from by omega)⟩
        · skip
          refine ⟨by omega, c_80_2 (by omega) xI4 (show -2147483648 ≤ nv1 ∧ nv1 ≤ 2147483647 from by omega) (fun nv9 xp9_0 xp9_1 => ?_)⟩
          replace xp9_0 : 0 ≤ nv9 ∧ nv9 ≤ 12 := xp9_0
          replace xp9_1 : nv9 = 0 ∨ (0 ≤ nv1 ∧ nv1 < 6) := xp9_1
          refine ⟨by omega, by omega, fun z10 => ?_, fun z10 => ?_⟩
          · skip
            refine ⟨by omega, c_101_19 (by omega) xI4 (show 1000 ≤ (1032 : Nat) ∧ (1032 : Nat) < 1039 from by omega) (fun Av10 Kv10 Tv10 xI10 => ?_)⟩
            refine ⟨by omega, c_82_2 (by omega) xI10 (show -2147483648 ≤ (1 : Int) ∧ (1 : Int) ≤ 2147483647 from by omega) (show -2147483648 ≤ (0 : Int) ∧ (0 : Int) ≤ 2147483647 from by omega) (fun nv11 Av11 Kv11 Tv11 xI11 xp11_0 => ?_)⟩
            replace xp11_0 : -1 ≤ nv11 ∧ nv11 < 3000 := xp11_0
            refine ⟨by omega, c_82_2 (by omega) xI11 (show -2147483648 ≤ (10 : Int) ∧ (10 : Int) ≤ 2147483647 from by omega) (show -2147483648 ≤ nv1 ∧ nv1 ≤ 2147483647 from by omega) (fun nv12 Av12 Kv12 Tv12 xI12 xp12_0 => ?_)⟩
            replace xp12_0 : -1 ≤ nv12 ∧ nv12 < 3000 := xp12_0
            refine ⟨by omega, c_67_10 (by omega) xI12 (show -2147483648 ≤ nv1 ∧ nv1 ≤ 2147483647 from by omega) (fun nv13 xp13_0 => ?_)⟩
            replace xp13_0 : nv13 = 0 ∨ nv13 = 1 := xp13_0
            exact ⟨by omega, q _ _ _ _ xI12 (show nv13 = 0 ∨ nv13 = 1 from by omega)⟩
          · skip
            have f11 := XI_r_19_10 xI4
            refine ⟨by omega, c_102_19 (by omega) xI4 (show 1 ≤ (5 : Int) ∧ (5 : Int) ≤ 9 from by omega) (show 0 ≤ (Av4 19 10) ∧ (Av4 19 10) ≤ 3000 from by omega) (fun Av14 Kv14 Tv14 xI14 xp14_0 => ?_)⟩
            replace xp14_0 : 1 ≤ (Av14 19 6) := xp14_0
            refine ⟨by omega, c_101_19 (by omega) xI14 (show 1000 ≤ (1032 : Nat) ∧ (1032 : Nat) < 1039 from by omega) (fun Av15 Kv15 Tv15 xI15 => ?_)⟩
            refine ⟨by omega, c_82_2 (by omega) xI15 (show -2147483648 ≤ (1 : Int) ∧ (1 : Int) ≤ 2147483647 from by omega) (show -2147483648 ≤ (0 : Int) ∧ (0 : Int) ≤ 2147483647 from by omega) (fun nv16 Av16 Kv16 Tv16 xI16 xp16_0 => ?_)⟩
            replace xp16_0 : -1 ≤ nv16 ∧ nv16 < 3000 := xp16_0
            refine ⟨by omega, c_82_2 (by omega) xI16 (show -2147483648 ≤ (10 : Int) ∧ (10 : Int) ≤ 2147483647 from by omega) (show -2147483648 ≤ nv1 ∧ nv1 ≤ 2147483647 from by omega) (fun nv17 Av17 Kv17 Tv17 xI17 xp17_0 => ?_)⟩
            replace xp17_0 : -1 ≤ nv17 ∧ nv17 < 3000 := xp17_0
            refine ⟨by omega, c_67_10 (by omega) xI17 (show -2147483648 ≤ nv1 ∧ nv1 ≤ 2147483647 from by omega) (fun nv18 xp18_0 => ?_)⟩
            replace xp18_0 : nv18 = 0 ∨ nv18 = 1 := xp18_0
            exact ⟨by omega, q _ _ _ _ xI17 (show nv18 = 0 ∨ nv18 = 1 from by omega)⟩
      · skip
        refine ⟨by omega, by omega, fun z12 => ?_, fun z12 => ?_⟩
        · skip
          refine ⟨by omega, c_101_19 (by omega) xI3 (show 1000 ≤ (1032 : Nat) ∧ (1032 : Nat) < 1039 from by omega) (fun Av19 Kv19 Tv19 xI19 => ?_)⟩
          refine ⟨by omega, c_82_2 (by omega) xI19 (show -2147483648 ≤ (1 : Int) ∧ (1 : Int) ≤ 2147483647 from by omega) (show -2147483648 ≤ (0 : Int) ∧ (0 : Int) ≤ 2147483647 from by omega) (fun nv20 Av20 Kv20 Tv20 xI20 xp20_0 => ?_)⟩
          replace xp20_0 : -1 ≤ nv20 ∧ nv20 < 3000 := xp20_0
          refine ⟨by omega, c_82_2 (by omega) xI20 (show -2147483648 ≤ (10 : Int) ∧ (10 : Int) ≤ 2147483647 from by omega) (show -2147483648 ≤ nv1 ∧ nv1 ≤ 2147483647 from by omega) (fun nv21 Av21 Kv21 Tv21 xI21 xp21_0 => ?_)⟩
          replace xp21_0 : -1 ≤ nv21 ∧ nv21 < 3000 := xp21_0
          refine ⟨by omega, c_67_10 (by omega) xI21 (show -2147483648 ≤ nv1 ∧ nv1 ≤ 2147483647 from by omega) (fun nv22 xp22_0 => ?_)⟩
          replace xp22_0 : nv22 = 0 ∨ nv22 = 1 := xp22_0
          exact ⟨by omega, q _ _ _ _ xI21 (show nv22 = 0 ∨ nv22 = 1 from by omega)⟩
        · skip
          refine ⟨by omega, c_80_2 (by omega) xI3 (show -2147483648 ≤ nv1 ∧ nv1 ≤ 2147483647 from by omega) (fun nv23 xp23_0 xp23_1 => ?_)⟩
          replace xp23_0 : 0 ≤ nv23 ∧ nv23 ≤ 12 := xp23_0
          replace xp23_1 : nv23 = 0 ∨ (0 ≤ nv1 ∧ nv1 < 6) := xp23_1
          refine ⟨by omega, by omega, fun z13 => ?_, fun z13 => ?_⟩
          · skip
            refine ⟨by omega, c_101_19 (by omega) xI3 (show 1000 ≤ (1032 : Nat) ∧ (1032 : Nat) < 1039 from by omega) (fun Av24 Kv24 Tv24 xI24 => ?_)⟩
            refine ⟨by omega, c_82_2 (by omega) xI24 (show -2147483648 ≤ (1 : Int) ∧ (1 : Int) ≤ 2147483647 from by omega) (show -2147483648 ≤ (0 : Int) ∧ (0 : Int) ≤ 2147483647 from by omega) (fun nv25 Av25 Kv25 Tv25 xI25 xp25_0 => ?_)⟩
            replace xp25_0 : -1 ≤ nv25 ∧ nv25 < 3000 := xp25_0
            refine ⟨by omega, c_82_2 (by omega) xI25 (show -2147483648 ≤ (10 : Int) ∧ (10 : Int) ≤ 2147483647 from by omega) (show -2147483648 ≤ nv1 ∧ nv1 ≤ 2147483647 from by omega) (fun nv26 Av26 Kv26 Tv26 xI26 xp26_0 => ?_)⟩
            replace xp26_0 : -1 ≤ nv26 ∧ nv26 < 3000 := xp26_0
            refine ⟨by omega, c_67_10 (by omega) xI26 (show -2147483648 ≤ nv1 ∧ nv1 ≤ 2147483647 from by omega) (fun nv27 xp27_0 => ?_)⟩
            replace xp27_0 : nv27 = 0 ∨ nv27 = 1 := xp27_0
            exact ⟨by omega, q _ _ _ _ xI26 (show nv27 = 0 ∨ nv27 = 1 from by omega)⟩
          · skip
            have f14 := XI_r_19_10 xI3
            refine ⟨by omega, c_102_19 (by omega) xI3 (show 1 ≤ (5 : Int) ∧ (5 : Int) ≤ 9 from by omega) (show 0 ≤ (Av3 19 10) ∧ (Av3 19 10) ≤ 3000 from by omega) (fun Av28 Kv28 Tv28 xI28 xp28_0 => ?_)⟩
            replace xp28_0 : 1 ≤ (Av28 19 6) := xp28_0
            refine ⟨by omega, c_101_19 (by omega) xI28 (show 1000 ≤ (1032 : Nat) ∧ (1032 : Nat) < 1039 from by omega) (fun Av29 Kv29 Tv29 xI29 => ?_)⟩
            refine ⟨by omega, c_82_2 (by omega) xI29 (show -2147483648 ≤ (1 : Int) ∧ (1 : Int) ≤ 2147483647 from by omega) (show -2147483648 ≤ (0 : Int) ∧ (0 : Int) ≤ 2147483647 from by omega) (fun nv30 Av30 Kv30 Tv30 xI30 xp30_0 => ?_)⟩
            replace xp30_0 : -1 ≤ nv30 ∧ nv30 < 3000 := xp30_0
            refine ⟨by omega, c_82_2 (by omega) xI30 (show -2147483648 ≤ (10 : Int) ∧ (10 : Int) ≤ 2147483647 from by omega) (show -2147483648 ≤ nv1 ∧ nv1 ≤ 2147483647 from by omega) (fun nv31 Av31 Kv31 Tv31 xI31 xp31_0 => ?_)⟩
            replace xp31_0 : -1 ≤ nv31 ∧ nv31 < 3000 := xp31_0
            refine ⟨by omega, c_67_10 (by omega) xI31 (show -2147483648 ≤ nv1 ∧ nv1 ≤ 2147483647 from by omega) (fun nv32 xp32_0 => ?_)⟩
            replace xp32_0 : nv32 = 0 ∨ nv32 = 1 := xp32_0
            exact ⟨by omega, q _ _ _ _ xI31 (show nv32 = 0 ∨ nv32 = 1 from by omega)⟩
    · skip
      exact ⟨by omega, q _ _ _ _ xI2 (show (0 : Int) = 0 ∨ (0 : Int) = 1 from by omega)⟩
  · skip
    refine ⟨by omega, ?_⟩
    refine ⟨by omega, c_102_19 (by omega) hI (show 1 ≤ (2 : Int) ∧ (2 : Int) ≤ 9 from by omega) (show 0 ≤ (A 22 (x).toNat) ∧ (A 22 (x).toNat) ≤ 3000 from by omega) (fun Av33 Kv33 Tv33 xI33 xp33_0 => ?_)⟩
    replace xp33_0 : 1 ≤ (Av33 19 6) := xp33_0
    exact ⟨by omega, q _ _ _ _ xI33 (show (0 : Int) = 0 ∨ (0 : Int) = 1 from by omega)⟩

set_option maxRecDepth 10000 in
set_option maxHeartbeats 400000 in
theorem c_125_19 {sz : Int} {d : Nat} {A B Y : zF} {K : Nat} {T : zT} {op : Int} {Q : Int → zF → zF → zF → Nat → zT → Prop} (HE : op ≤ 9 → EC sz B Y (op + 1)) (hd : 20 * (10 - op) + 34 ≤ (d : Int)) (hI : XI 1 sz A K T) (p1 : 0 ≤ op ∧ op ≤ 10) (q : ∀ (r : Int) (A' : zF) (K' : Nat) (T' : zT), XI 1 sz A' K' T' → (r = 0 ∨ r = 1) → Q r A' B Y K' T') : pzI d 125 [.inr (.inr (19 : Nat)), .inl op] (A, B, Y, K, T) Q := by
  have L85 : ∀ (c : Int) (t : Int) (A2 : zF) (K2 : Nat) (T2 : zT), XI 1 sz A2 K2 T2 → (c = 0 ∨ c = 1) → (-1 ≤ t ∧ t ≤ 51) → pq d 125 85 [some (.inr (.inr (19 : Nat))), some (.inl op), none, some (.inl c), some (.inl t)] [] (A2, B, Y, K2, T2) (qI Q) := by
    intro c t A2 K2 T2 hI2 i0 i1
    refine pq_of 17 [(74, [2]), (85, [2])] [] ?_
    show ((-2147483648 ≤ c ∧ c < 2147483648) ∧ (c = (0 : Int) → ((-2147483648 ≤ c ∧ c < 2147483648) ∧ (c = (0 : Int) → (0 < d ∧ pzI (d - 1) 131 [.inr (.inr (19 : Nat)), .inl t] (A2, B, Y, K2, T2) (fun nv201 Av201 Bv201 Yv201 Kv201 Tv201 => (0 < d ∧ pzI (d - 1) 82 [.inr (.inr (2 : Nat)), .inl (3 : Int), .inl nv201] (Av201, Bv201, Yv201, Kv201, Tv201) (fun nv202 Av202 Bv202 Yv202 Kv202 Tv202 => (0 < d ∧ pzI (d - 1) 130 [.inr (.inr (19 : Nat)), .inl t] (Av202, Bv202, Yv202, Kv202, Tv202) (fun nv203 Av203 Bv203 Yv203 Kv203 Tv203 => ((nv203 = 0 ∨ nv203 = 1) ∧ Q nv203 Av203 Bv203 Yv203 Kv203 Tv203)))))))) ∧ (c ≠ (0 : Int) → (0 < d ∧ pzI (d - 1) 82 [.inr (.inr (2 : Nat)), .inl (3 : Int), .inl t] (A2, B, Y, K2, T2) (fun nv204 Av204 Bv204 Yv204 Kv204 Tv204 => (0 < d ∧ pzI (d - 1) 130 [.inr (.inr (19 : Nat)), .inl t] (Av204, Bv204, Yv204, Kv204, Tv204) (fun nv205 Av205 Bv205 Yv205 Kv205 Tv205 => ((nv205 = 0 ∨ nv205 = 1) ∧ Q nv205 Av205 Bv205 Yv205 Kv205 Tv205)))))))) ∧ (c ≠ (0 : Int) → ((-2147483648 ≤ c ∧ c < 2147483648) ∧ (c = (0 : Int) → (0 < d ∧ pzI (d - 1) 131 [.inr (.inr (19 : Nat)), .inl t] (A2, B, Y, K2, T2) (fun nv206 Av206 Bv206 Yv206 Kv206 Tv206 => (0 < d ∧ pzI (d - 1) 82 [.inr (.inr (2 : Nat)), .inl (5 : Int), .inl nv206] (Av206, Bv206, Yv206, Kv206, Tv206) (fun nv207 Av207 Bv207 Yv207 Kv207 Tv207 => (0 < d ∧ pzI (d - 1) 130 [.inr (.inr (19 : Nat)), .inl t] (Av207, Bv207, Yv207, Kv207, Tv207) (fun nv208 Av208 Bv208 Yv208 Kv208 Tv208 => ((nv208 = 0 ∨ nv208 = 1) ∧ Q nv208 Av208 Bv208 Yv208 Kv208 Tv208)))))))) ∧ (c ≠ (0 : Int) → (0 < d ∧ pzI (d - 1) 82 [.inr (.inr (2 : Nat)), .inl (5 : Int), .inl t] (A2, B, Y, K2, T2) (fun nv209 Av209 Bv209 Yv209 Kv209 Tv209 => (0 < d ∧ pzI (d - 1) 130 [.inr (.inr (19 : Nat)), .inl t] (Av209, Bv209, Yv209, Kv209, Tv209) (fun nv210 Av210 Bv210 Yv210 Kv210 Tv210 => ((nv210 = 0 ∨ nv210 = 1) ∧ Q nv210 Av210 Bv210 Yv210 Kv210 Tv210)))))))))
    refine ⟨by omega, fun z1 => ?_, fun z1 => ?_⟩
    · skip
      refine ⟨by omega, fun z2 => ?_, fun z2 => ?_⟩
      · skip
        refine ⟨by omega, c_131_19 (by omega) hI2 (show -1 ≤ t ∧ t ≤ 51 from by omega) (fun nv201 xp201_0 => ?_)⟩
        replace xp201_0 : -2147483648 ≤ nv201 ∧ nv201 ≤ 2147483647 := xp201_0
        refine ⟨by omega, c_82_2 (by omega) hI2 (show -2147483648 ≤ (3 : Int) ∧ (3 : Int) ≤ 2147483647 from by omega) (show -2147483648 ≤ nv201 ∧ nv201 ≤ 2147483647 from by omega) (fun nv202 Av202 Kv202 Tv202 xI202 xp202_0 => ?_)⟩
        replace xp202_0 : -1 ≤ nv202 ∧ nv202 < 3000 := xp202_0
        refine ⟨by omega, c_130_19 (by omega) xI202 (show -1 ≤ t ∧ t ≤ 51 from by omega) (fun nv203 xp203_0 => ?_)⟩
        replace xp203_0 : nv203 = 0 ∨ nv203 = 1 := xp203_0
        exact ⟨by omega, q _ _ _ _ xI202 (show nv203 = 0 ∨ nv203 = 1 from by omega)⟩
      · skip
        refine ⟨by omega, c_82_2 (by omega) hI2 (show -2147483648 ≤ (3 : Int) ∧ (3 : Int) ≤ 2147483647 from by omega) (show -2147483648 ≤ t ∧ t ≤ 2147483647 from by omega) (fun nv204 Av204 Kv204 Tv204 xI204 xp204_0 => ?_)⟩
        replace xp204_0 : -1 ≤ nv204 ∧ nv204 < 3000 := xp204_0
        refine ⟨by omega, c_130_19 (by omega) xI204 (show -1 ≤ t ∧ t ≤ 51 from by omega) (fun nv205 xp205_0 => ?_)⟩
        replace xp205_0 : nv205 = 0 ∨ nv205 = 1 := xp205_0
        exact ⟨by omega, q _ _ _ _ xI204 (show nv205 = 0 ∨ nv205 = 1 from by omega)⟩
    · skip
      refine ⟨by omega, fun z3 => ?_, fun z3 => ?_⟩
      · skip
        refine ⟨by omega, c_131_19 (by omega) hI2 (show -1 ≤ t ∧ t ≤ 51 from by omega) (fun nv206 xp206_0 => ?_)⟩
        replace xp206_0 : -2147483648 ≤ nv206 ∧ nv206 ≤ 2147483647 := xp206_0
        refine ⟨by omega, c_82_2 (by omega) hI2 (show -2147483648 ≤ (5 : Int) ∧ (5 : Int) ≤ 2147483647 from by omega) (show -2147483648 ≤ nv206 ∧ nv206 ≤ 2147483647 from by omega) (fun nv207 Av207 Kv207 Tv207 xI207 xp207_0 => ?_)⟩
        replace xp207_0 : -1 ≤ nv207 ∧ nv207 < 3000 := xp207_0
        refine ⟨by omega, c_130_19 (by omega) xI207 (show -1 ≤ t ∧ t ≤ 51 from by omega) (fun nv208 xp208_0 => ?_)⟩
        replace xp208_0 : nv208 = 0 ∨ nv208 = 1 := xp208_0
        exact ⟨by omega, q _ _ _ _ xI207 (show nv208 = 0 ∨ nv208 = 1 from by omega)⟩
      · skip
        refine ⟨by omega, c_82_2 (by omega) hI2 (show -2147483648 ≤ (5 : Int) ∧ (5 : Int) ≤ 2147483647 from by omega) (show -2147483648 ≤ t ∧ t ≤ 2147483647 from by omega) (fun nv209 Av209 Kv209 Tv209 xI209 xp209_0 => ?_)⟩
        replace xp209_0 : -1 ≤ nv209 ∧ nv209 < 3000 := xp209_0
        refine ⟨by omega, c_130_19 (by omega) xI209 (show -1 ≤ t ∧ t ≤ 51 from by omega) (fun nv210 xp210_0 => ?_)⟩
        replace xp210_0 : nv210 = 0 ∨ nv210 = 1 := xp210_0
        exact ⟨by omega, q _ _ _ _ xI209 (show nv210 = 0 ∨ nv210 = 1 from by omega)⟩
  have L74 : ∀ (c : Int) (t : Int) (A2 : zF) (K2 : Nat) (T2 : zT), XI 1 sz A2 K2 T2 → (c = 0 ∨ (c = 1 ∧ op ≤ 9)) → (-1 ≤ t ∧ t ≤ 51) → pq d 125 74 [some (.inr (.inr (19 : Nat))), some (.inl op), none, some (.inl c), some (.inl t)] [] (A2, B, Y, K2, T2) (qI Q) := by
    intro c t A2 K2 T2 hI2 i0 i1
    refine pq_of 7 [(74, [2]), (85, [2])] [] ?_
    show ((-2147483648 ≤ c ∧ c < 2147483648) ∧ (c = (0 : Int) → pq d 125 85 [some (.inr (.inr (19 : Nat))), some (.inl op), none, some (.inl c), some (.inl t)] [] (A2, B, Y, K2, T2) (qI Q)) ∧ (c ≠ (0 : Int) → (0 < d ∧ pzV (d - 1) 120 [.inr (.inr (19 : Nat)), .inl (op + (1 : Int))] (A2, B, Y, K2, T2) (fun Av101 Bv101 Yv101 Kv101 Tv101 => pq d 125 85 [some (.inr (.inr (19 : Nat))), some (.inl op), none, some (.inl c), some (.inl t)] [] (Av101, Bv101, Yv101, Kv101, Tv101) (qI Q)))))
    refine ⟨by omega, fun z1 => ?_, fun z1 => ?_⟩
    · skip
      exact L85 (c) (t) _ _ _ hI2 (show c = 0 ∨ c = 1 from by omega) (show -1 ≤ t ∧ t ≤ 51 from by omega)
    · skip
      refine ⟨by omega, c_120_19 (HE (by omega)) (by omega) hI2 (show 0 ≤ (op + (1 : Int)) ∧ (op + (1 : Int)) ≤ 10 from by omega) (fun Av101 Kv101 Tv101 xI101 => ?_)⟩
      exact L85 (c) (t) _ _ _ xI101 (show c = 0 ∨ c = 1 from by omega) (show -1 ≤ t ∧ t ≤ 51 from by omega)
  refine pzI_of 34 [(74, [2]), (85, [2])] [] ?_
  show (0 < d ∧ pzV (d - 1) 100 [.inr (.inr (19 : Nat))] (A, B, Y, K, T) (fun Av1 Bv1 Yv1 Kv1 Tv1 => ((1000 ≤ Kv1 ∧ Kv1 < 1064) ∧ (1000 ≤ (1031 : Nat) ∧ (1031 : Nat) < 1064) ∧ (Kv1 ≠ (1031 : Nat) → ((1000 ≤ Kv1 ∧ Kv1 < 1064) ∧ (1000 ≤ (1033 : Nat) ∧ (1033 : Nat) < 1064) ∧ (Kv1 ≠ (1033 : Nat) → (0 < d ∧ pzI (d - 1) 129 [.inr (.inr (19 : Nat)), .inl (A 19 8), .inl (0 : Int)] (Av1, Bv1, Yv1, Kv1, Tv1) (fun nv2 Av2 Bv2 Yv2 Kv2 Tv2 => ((-2147483648 ≤ nv2 ∧ nv2 < 2147483648) ∧ (-2147483648 ≤ (-1 : Int) ∧ (-1 : Int) < 2147483648) ∧ (nv2 = (-1 : Int) → (((0 : Int) = 0 ∨ (0 : Int) = 1) ∧ Q (0 : Int) Av2 Bv2 Yv2 Kv2 Tv2)) ∧ (nv2 ≠ (-1 : Int) → ((-2147483648 ≤ (0 : Int) ∧ (0 : Int) < 2147483648) ∧ ((0 : Int) = (0 : Int) → pq d 125 74 [some (.inr (.inr (19 : Nat))), some (.inl op), none, some (.inl (0 : Int)), some (.inl nv2)] [] (Av2, Bv2, Yv2, Kv2, Tv2) (qI Q)) ∧ ((0 : Int) ≠ (0 : Int) → (0 < d ∧ pzI (d - 1) 104 [.inr (.inr (19 : Nat)), .inl op, .inl (Av2 19 10)] (Av2, Bv2, Yv2, Kv2, Tv2) (fun nv3 Av3 Bv3 Yv3 Kv3 Tv3 => ((-2147483648 ≤ nv3 ∧ nv3 < 2147483648) ∧ (nv3 ≠ (0 : Int) → pq d 125 74 [some (.inr (.inr (19 : Nat))), some (.inl op), none, some (.inl (0 : Int)), some (.inl nv2)] [] (Av3, Bv3, Yv3, Kv3, Tv3) (qI Q)) ∧ (nv3 = (0 : Int) → (((0 : Int) = 0 ∨ (0 : Int) = 1) ∧ Q (0 : Int) Av3 Bv3 Yv3 Kv3 Tv3)))))))))))) ∧ (Kv1 = (1033 : Nat) → (0 < d ∧ pzI (d - 1) 129 [.inr (.inr (19 : Nat)), .inl (A 19 8), .inl (1 : Int)] (Av1, Bv1, Yv1, Kv1, Tv1) (fun nv4 Av4 Bv4 Yv4 Kv4 Tv4 => ((-2147483648 ≤ nv4 ∧ nv4 < 2147483648) ∧ (-2147483648 ≤ (-1 : Int) ∧ (-1 : Int) < 2147483648) ∧ (nv4 = (-1 : Int) → (((0 : Int) = 0 ∨ (0 : Int) = 1) ∧ Q (0 : Int) Av4 Bv4 Yv4 Kv4 Tv4)) ∧ (nv4 ≠ (-1 : Int) → ((-2147483648 ≤ (1 : Int) ∧ (1 : Int) < 2147483648) ∧ ((1 : Int) = (0 : Int) → pq d 125 74 [some (.inr (.inr (19 : Nat))), some (.inl op), none, some (.inl (1 : Int)), some (.inl nv4)] [] (Av4, Bv4, Yv4, Kv4, Tv4) (qI Q)) ∧ ((1 : Int) ≠ (0 : Int) → (0 < d ∧ pzI (d - 1) 104 [.inr (.inr (19 : Nat)), .inl op, .inl (Av4 19 10)] (Av4, Bv4, Yv4, Kv4, Tv4) (fun nv5 Av5 Bv5 Yv5 Kv5 Tv5 => ((-2147483648 ≤ nv5 ∧ nv5 < 2147483648) ∧ (nv5 ≠ (0 : Int) → pq d 125 74 [some (.inr (.inr (19 : Nat))), some (.inl op), none, some (.inl (1 : Int)), some (.inl nv4)] [] (Av5, Bv5, Yv5, Kv5, Tv5) (qI Q)) ∧ (nv5 = (0 : Int) → (((0 : Int) = 0 ∨ (0 : Int) = 1) ∧ Q (0 : Int) Av5 Bv5 Yv5 Kv5 Tv5)))))))))))))) ∧ (Kv1 = (1031 : Nat) → (0 < d ∧ pzI (d - 1) 126 [.inr (.inr (19 : Nat)), .inl (A 19 8), .inl op] (Av1, Bv1, Yv1, Kv1, Tv1) (fun nv6 Av6 Bv6 Yv6 Kv6 Tv6 => ((nv6 = 0 ∨ nv6 = 1) ∧ Q nv6 Av6 Bv6 Yv6 Kv6 Tv6)))))))
  have f1 := XI_r_19_8 hI
  refine ⟨by omega, c_100_19 (by omega) hI  (fun Av1 Kv1 Tv1 xI1 xp1_0 => ?_)⟩
  replace xp1_0 : (Av1 19 6) = (A 19 6) := xp1_0
  have f2 := XI_rK xI1
  refine ⟨by omega, by omega, fun z3 => ?_, fun z3 => ?_⟩
  · skip
    refine ⟨by omega, by omega, fun z4 => ?_, fun z4 => ?_⟩
    · skip
      refine ⟨by omega, c_129_19 (by omega) xI1 (show 0 ≤ (A 19 8) ∧ (A 19 8) ≤ 3000 from by omega) (show (0 : Int) = 0 ∨ (0 : Int) = 1 from by omega) (fun nv2 Av2 Kv2 Tv2 xI2 xp2_0 => ?_)⟩
      replace xp2_0 : -1 ≤ nv2 ∧ nv2 ≤ 51 := xp2_0
      refine ⟨by omega, by omega, fun z5 => ?_, fun z5 => ?_⟩
      · skip
        exact ⟨by omega, q _ _ _ _ xI2 (show (0 : Int) = 0 ∨ (0 : Int) = 1 from by omega)⟩
      · skip
        refine ⟨by omega, fun z6 => ?_, fun z6 => ?_⟩
        · skip
          exact L74 ((0 : Int)) (nv2) _ _ _ xI2 (show (0 : Int) = 0 ∨ ((0 : Int) = 1 ∧ op ≤ 9) from by omega) (show -1 ≤ nv2 ∧ nv2 ≤ 51 from by omega)
        · skip
          exact absurd z6 (by decide)
    · skip
      refine ⟨by omega, c_129_19 (by omega) xI1 (show 0 ≤ (A 19 8) ∧ (A 19 8) ≤ 3000 from by omega) (show (1 : Int) = 0 ∨ (1 : Int) = 1 from by omega) (fun nv4 Av4 Kv4 Tv4 xI4 xp4_0 => ?_)⟩
      replace xp4_0 : -1 ≤ nv4 ∧ nv4 ≤ 51 := xp4_0
      refine ⟨by omega, by omega, fun z9 => ?_, fun z9 => ?_⟩
      · skip
        exact ⟨by omega, q _ _ _ _ xI4 (show (0 : Int) = 0 ∨ (0 : Int) = 1 from by omega)⟩
      · skip
        refine ⟨by omega, fun z10 => ?_, fun z10 => ?_⟩
        · skip
          exact absurd z10 (by decide)
        · skip
          have f11 := XI_r_19_10 xI4
          refine ⟨by omega, c_104_19 (by omega) xI4 (show 0 ≤ op ∧ op ≤ 10 from by omega) (show 0 ≤ (Av4 19 10) ∧ (Av4 19 10) ≤ 3000 from by omega) (fun nv5 Av5 Kv5 Tv5 xI5 xp5_0 => ?_)⟩
          replace xp5_0 : (nv5 = 1 ∧ op ≤ 9) ∨ nv5 = 0 := xp5_0
          refine ⟨by omega, fun z12 => ?_, fun z12 => ?_⟩
          · skip
            exact L74 ((1 : Int)) (nv4) _ _ _ xI5 (show (1 : Int) = 0 ∨ ((1 : Int) = 1 ∧ op ≤ 9) from by omega) (show -1 ≤ nv4 ∧ nv4 ≤ 51 from by omega)
          · skip
            exact ⟨by omega, q _ _ _ _ xI5 (show (0 : Int) = 0 ∨ (0 : Int) = 1 from by omega)⟩
  · skip
    refine ⟨by omega, c_126_19 HE (by omega) xI1 (show 0 ≤ (A 19 8) ∧ (A 19 8) ≤ 3000 from by omega) (show 0 ≤ op ∧ op ≤ 10 from by omega) (fun nv6 Av6 Kv6 Tv6 xI6 xp6_0 => ?_)⟩
    replace xp6_0 : nv6 = 0 ∨ nv6 = 1 := xp6_0
    exact ⟨by omega, q _ _ _ _ xI6 (show nv6 = 0 ∨ nv6 = 1 from by omega)⟩

set_option maxRecDepth 10000 in
set_option maxHeartbeats 400000 in
theorem c_124_19 {sz : Int} {d : Nat} {A B Y : zF} {K : Nat} {T : zT} {op : Int} {Q : Int → zF → zF → zF → Nat → zT → Prop} (HE : op ≤ 9 → EC sz B Y (op + 1)) (hd : 20 * (10 - op) + 35 ≤ (d : Int)) (hI : XI 1 sz A K T) (p1 : 0 ≤ op ∧ op ≤ 10) (q : ∀ (r : Int) (A' : zF) (K' : Nat) (T' : zT), XI 1 sz A' K' T' → (r = 0 ∨ r = 1) → Q r A' B Y K' T') : pzI d 124 [.inr (.inr (19 : Nat)), .inl op] (A, B, Y, K, T) Q := by
  refine pzI_of 31 [] [] ?_
  show ((1000 ≤ K ∧ K < 1064) ∧ (1000 ≤ (1000 : Nat) ∧ (1000 : Nat) < 1064) ∧ (K ≠ (1000 : Nat) → ((1000 ≤ K ∧ K < 1064) ∧ (1000 ≤ (1001 : Nat) ∧ (1001 : Nat) < 1064) ∧ (K ≠ (1001 : Nat) → ((1000 ≤ K ∧ K < 1064) ∧ (1000 ≤ (1031 : Nat) ∧ (1031 : Nat) < 1064) ∧ (K = (1031 : Nat) → (0 < d ∧ pzI (d - 1) 104 [.inr (.inr (19 : Nat)), .inl op, .inl (A 19 10)] (A, B, Y, K, T) (fun nv1 Av1 Bv1 Yv1 Kv1 Tv1 => ((-2147483648 ≤ nv1 ∧ nv1 < 2147483648) ∧ (nv1 ≠ (0 : Int) → (0 < d ∧ pzV (d - 1) 100 [.inr (.inr (19 : Nat))] (Av1, Bv1, Yv1, Kv1, Tv1) (fun Av2 Bv2 Yv2 Kv2 Tv2 => (0 < d ∧ pzI (d - 1) 121 [.inr (.inr (19 : Nat)), .inl (op + (1 : Int))] (Av2, Bv2, Yv2, Kv2, Tv2) (fun nv3 Av3 Bv3 Yv3 Kv3 Tv3 => (0 < d ∧ pzV (d - 1) 101 [.inr (.inr (19 : Nat)), .inr (.inr (1032 : Nat))] (Av3, Bv3, Yv3, Kv3, Tv3) (fun Av4 Bv4 Yv4 Kv4 Tv4 => ((nv3 = 0 ∨ nv3 = 1) ∧ Q nv3 Av4 Bv4 Yv4 Kv4 Tv4)))))))) ∧ (nv1 = (0 : Int) → (((0 : Int) = 0 ∨ (0 : Int) = 1) ∧ Q (0 : Int) Av1 Bv1 Yv1 Kv1 Tv1)))))) ∧ (K ≠ (1031 : Nat) → (0 < d ∧ pzV (d - 1) 102 [.inr (.inr (19 : Nat)), .inl (1 : Int), .inl (A 19 10)] (A, B, Y, K, T) (fun Av5 Bv5 Yv5 Kv5 Tv5 => (((0 : Int) = 0 ∨ (0 : Int) = 1) ∧ Q (0 : Int) Av5 Bv5 Yv5 Kv5 Tv5)))))) ∧ (K = (1001 : Nat) → ((0 ≤ (A 19 8) ∧ (A 19 8) < (3001 : Int)) ∧ (0 < d ∧ pzI (d - 1) 82 [.inr (.inr (2 : Nat)), .inl (2 : Int), .inl (A 24 ((A 19 8)).toNat)] (A, B, Y, K, T) (fun nv6 Av6 Bv6 Yv6 Kv6 Tv6 => (0 < d ∧ pzV (d - 1) 100 [.inr (.inr (19 : Nat))] (Av6, Bv6, Yv6, Kv6, Tv6) (fun Av7 Bv7 Yv7 Kv7 Tv7 => (((0 : Int) = 0 ∨ (0 : Int) = 1) ∧ Q (0 : Int) Av7 Bv7 Yv7 Kv7 Tv7))))))))) ∧ (K = (1000 : Nat) → (0 < d ∧ pzI (d - 1) 125 [.inr (.inr (19 : Nat)), .inl op] (A, B, Y, K, T) (fun nv8 Av8 Bv8 Yv8 Kv8 Tv8 => ((nv8 = 0 ∨ nv8 = 1) ∧ Q nv8 Av8 Bv8 Yv8 Kv8 Tv8)))))
  have f1 := XI_rK hI
  refine ⟨by omega, by omega, fun z2 => ?_, fun z2 => ?_⟩
  · skip
    refine ⟨by omega, by omega, fun z3 => ?_, fun z3 => ?_⟩
    · skip
      refine ⟨by omega, by omega, fun z4 => ?_, fun z4 => ?_⟩
      · skip
        have f5 := XI_r_19_10 hI
        refine ⟨by omega, c_104_19 (by omega) hI (show 0 ≤ op ∧ op ≤ 10 from by omega) (show 0 ≤ (A 19 10) ∧ (A 19 10) ≤ 3000 from by omega) (fun nv1 Av1 Kv1 Tv1 xI1 xp1_0 => ?_)⟩
        replace xp1_0 : (nv1 = 1 ∧ op ≤ 9) ∨ nv1 = 0 := xp1_0
        refine ⟨by omega, fun z6 => ?_, fun z6 => ?_⟩
        · skip
          refine ⟨by omega, c_100_19 (by omega) xI1  (fun Av2 Kv2 Tv2 xI2 xp2_0 => ?_)⟩
          replace xp2_0 : (Av2 19 6) = (Av1 19 6) := xp2_0
          refine ⟨by omega, HE (by omega) _ _ _ _ _ (by omega) xI2  (fun nv3 Av3 Kv3 Tv3 xI3 xp3_0 => ?_)⟩
          replace xp3_0 : nv3 = 0 ∨ nv3 = 1 := xp3_0
          refine ⟨by omega, c_101_19 (by omega) xI3 (show 1000 ≤ (1032 : Nat) ∧ (1032 : Nat) < 1039 from by omega) (fun Av4 Kv4 Tv4 xI4 => ?_)⟩
          exact ⟨by omega, q _ _ _ _ xI4 (show nv3 = 0 ∨ nv3 = 1 from by omega)⟩
        · skip
          exact ⟨by omega, q _ _ _ _ xI1 (show (0 : Int) = 0 ∨ (0 : Int) = 1 from by omega)⟩
      · skip
        have f7 := XI_r_19_10 hI
        refine ⟨by omega, c_102_19 (by omega) hI (show 1 ≤ (1 : Int) ∧ (1 : Int) ≤ 9 from by omega) (show 0 ≤ (A 19 10) ∧ (A 19 10) ≤ 3000 from by omega) (fun Av5 Kv5 Tv5 xI5 xp5_0 => ?_)⟩
        replace xp5_0 : 1 ≤ (Av5 19 6) := xp5_0
        exact ⟨by omega, q _ _ _ _ xI5 (show (0 : Int) = 0 ∨ (0 : Int) = 1 from by omega)⟩
    · skip
      have f8 := XI_r_19_8 hI
      refine ⟨by omega, ?_⟩
      have f9 := XI_r_24 hI (((A 19 8)).toNat)
      refine ⟨by omega, c_82_2 (by omega) hI (show -2147483648 ≤ (2 : Int) ∧ (2 : Int) ≤ 2147483647 from by omega) (show -2147483648 ≤ (A 24 ((A 19 8)).toNat) ∧ (A 24 ((A 19 8)).toNat) ≤ 2147483647 from by omega) (fun nv6 Av6 Kv6 Tv6 xI6 xp6_0 => ?_)⟩
      replace xp6_0 : -1 ≤ nv6 ∧ nv6 < 3000 := xp6_0
      refine ⟨by omega, c_100_19 (by omega) xI6  (fun Av7 Kv7 Tv7 xI7 xp7_0 => ?_)⟩
      replace xp7_0 : (Av7 19 6) = (Av6 19 6) := xp7_0
      exact ⟨by omega, q _ _ _ _ xI7 (show (0 : Int) = 0 ∨ (0 : Int) = 1 from by omega)⟩
  · skip
    refine ⟨by omega, c_125_19 HE (by omega) hI (show 0 ≤ op ∧ op ≤ 10 from by omega) (fun nv8 Av8 Kv8 Tv8 xI8 xp8_0 => ?_)⟩
    replace xp8_0 : nv8 = 0 ∨ nv8 = 1 := xp8_0
    exact ⟨by omega, q _ _ _ _ xI8 (show nv8 = 0 ∨ nv8 = 1 from by omega)⟩

set_option maxRecDepth 10000 in
set_option maxHeartbeats 400000 in
theorem c_123_19 {sz : Int} {d : Nat} {A B Y : zF} {K : Nat} {T : zT} {op : Int} {Q : Int → zF → zF → zF → Nat → zT → Prop} (HE : op ≤ 9 → EC sz B Y (op + 1)) (HP : op ≤ 9 → PC sz B Y (op + 1)) (hd : 20 * (10 - op) + 36 ≤ (d : Int)) (hI : XI 1 sz A K T) (p1 : 0 ≤ op ∧ op ≤ 10) (q : ∀ (r : Int) (A' : zF) (K' : Nat) (T' : zT), XI 1 sz A' K' T' → (r = 0 ∨ r = 1) → Q r A' B Y K' T') : pzI d 123 [.inr (.inr (19 : Nat)), .inl op] (A, B, Y, K, T) Q := by
  refine pzI_of 28 [] [] ?_
  show ((1000 ≤ K ∧ K < 1039) ∧ (0 < d ∧ pzI (d - 1) 87 [.inr (.inr K)] (A, B, Y, K, T) (fun nv1 Av1 Bv1 Yv1 Kv1 Tv1 => ((-2147483648 ≤ nv1 ∧ nv1 < 2147483648) ∧ (nv1 ≠ (0 : Int) → (0 < d ∧ pzI (d - 1) 104 [.inr (.inr (19 : Nat)), .inl op, .inl (Av1 19 10)] (Av1, Bv1, Yv1, Kv1, Tv1) (fun nv2 Av2 Bv2 Yv2 Kv2 Tv2 => ((-2147483648 ≤ nv2 ∧ nv2 < 2147483648) ∧ (nv2 ≠ (0 : Int) → (0 < d ∧ pzV (d - 1) 100 [.inr (.inr (19 : Nat))] (Av2, Bv2, Yv2, Kv2, Tv2) (fun Av3 Bv3 Yv3 Kv3 Tv3 => (0 < d ∧ pzI (d - 1) 123 [.inr (.inr (19 : Nat)), .inl (op + (1 : Int))] (Av3, Bv3, Yv3, Kv3, Tv3) (fun nv4 Av4 Bv4 Yv4 Kv4 Tv4 => (0 < d ∧ pzI (d - 1) 82 [.inr (.inr (2 : Nat)), .inl nv1, .inl (0 : Int)] (Av4, Bv4, Yv4, Kv4, Tv4) (fun nv5 Av5 Bv5 Yv5 Kv5 Tv5 => ((nv4 = 0 ∨ nv4 = 1) ∧ Q nv4 Av5 Bv5 Yv5 Kv5 Tv5)))))))) ∧ (nv2 = (0 : Int) → (((0 : Int) = 0 ∨ (0 : Int) = 1) ∧ Q (0 : Int) Av2 Bv2 Yv2 Kv2 Tv2)))))) ∧ (nv1 = (0 : Int) → (0 < d ∧ pzI (d - 1) 124 [.inr (.inr (19 : Nat)), .inl op] (Av1, Bv1, Yv1, Kv1, Tv1) (fun nv6 Av6 Bv6 Yv6 Kv6 Tv6 => ((nv6 = 0 ∨ nv6 = 1) ∧ Q nv6 Av6 Bv6 Yv6 Kv6 Tv6))))))))
  have f1 := XI_rK hI
  refine ⟨by omega, by omega, c_87 (by omega) (show 1000 ≤ K ∧ K < 1039 from by omega) (fun nv1 xp1_0 => ?_)⟩
  replace xp1_0 : 0 ≤ nv1 ∧ nv1 ≤ 29 := xp1_0
  refine ⟨by omega, fun z2 => ?_, fun z2 => ?_⟩
  · skip
    have f3 := XI_r_19_10 hI
    refine ⟨by omega, c_104_19 (by omega) hI (show 0 ≤ op ∧ op ≤ 10 from by omega) (show 0 ≤ (A 19 10) ∧ (A 19 10) ≤ 3000 from by omega) (fun nv2 Av2 Kv2 Tv2 xI2 xp2_0 => ?_)⟩
    replace xp2_0 : (nv2 = 1 ∧ op ≤ 9) ∨ nv2 = 0 := xp2_0
    refine ⟨by omega, fun z4 => ?_, fun z4 => ?_⟩
    · skip
      refine ⟨by omega, c_100_19 (by omega) xI2  (fun Av3 Kv3 Tv3 xI3 xp3_0 => ?_)⟩
      replace xp3_0 : (Av3 19 6) = (Av2 19 6) := xp3_0
      refine ⟨by omega, HP (by omega) _ _ _ _ _ (by omega) xI3  (fun nv4 Av4 Kv4 Tv4 xI4 xp4_0 => ?_)⟩
      replace xp4_0 : nv4 = 0 ∨ nv4 = 1 := xp4_0
      refine ⟨by omega, c_82_2 (by omega) xI4 (show -2147483648 ≤ nv1 ∧ nv1 ≤ 2147483647 from by omega) (show -2147483648 ≤ (0 : Int) ∧ (0 : Int) ≤ 2147483647 from by omega) (fun nv5 Av5 Kv5 Tv5 xI5 xp5_0 => ?_)⟩
      replace xp5_0 : -1 ≤ nv5 ∧ nv5 < 3000 := xp5_0
      exact ⟨by omega, q _ _ _ _ xI5 (show nv4 = 0 ∨ nv4 = 1 from by omega)⟩
    · skip
      exact ⟨by omega, q _ _ _ _ xI2 (show (0 : Int) = 0 ∨ (0 : Int) = 1 from by omega)⟩
  · skip
    refine ⟨by omega, c_124_19 HE (by omega) hI (show 0 ≤ op ∧ op ≤ 10 from by omega) (fun nv6 Av6 Kv6 Tv6 xI6 xp6_0 => ?_)⟩
    replace xp6_0 : nv6 = 0 ∨ nv6 = 1 := xp6_0
    exact ⟨by omega, q _ _ _ _ xI6 (show nv6 = 0 ∨ nv6 = 1 from by omega)⟩

set_option maxRecDepth 10000 in
set_option maxHeartbeats 400000 in
theorem c_122_19 {sz : Int} {d : Nat} {A B Y : zF} {K : Nat} {T : zT} {lv : Int} {op : Int} {Q : Int → zF → zF → zF → Nat → zT → Prop} (HE : op ≤ 9 → EC sz B Y (op + 1)) (HP : op ≤ 9 → PC sz B Y (op + 1)) (HB : ∀ l, lv < l → l ≤ 9 → BC sz B Y op l) (hd : 20 * (10 - op) + 46 - lv ≤ (d : Int)) (hI : XI 1 sz A K T) (p1 : 1 ≤ lv ∧ lv ≤ 9) (p2 : 0 ≤ op ∧ op ≤ 10) (q : ∀ (r : Int) (A' : zF) (K' : Nat) (T' : zT), XI 1 sz A' K' T' → (r = 0 ∨ r = 1) → Q r A' B Y K' T') : pzI d 122 [.inr (.inr (19 : Nat)), .inl lv, .inl op] (A, B, Y, K, T) Q := by
  have L11 : ∀ (n : Nat) (k : Int) (e : Int) (A2 : zF) (K2 : Nat) (T2 : zT), XI 1 sz A2 K2 T2 → (k = 0 ∨ k = 1) → (0 ≤ e ∧ e ≤ 3000) → (e) < (n : Int) → pq d 122 11 [some (.inr (.inr (19 : Nat))), some (.inl lv), some (.inl op), some (.inl k), some (.inl e), none, none] [] (A2, B, Y, K2, T2) (qI Q) := by
    intro n
    induction n with
    | zero =>
      intro k e A2 K2 T2 hI2 i0 i1 hm
      exfalso
      omega
    | succ n ih =>
      intro k e A2 K2 T2 hI2 i0 i1 hm
      refine pq_of 46 [(11, [5, 6])] [] ?_
      show ((-2147483648 ≤ e ∧ e < 2147483648) ∧ (e ≤ (0 : Int) → ((k = 0 ∨ k = 1) ∧ Q k A2 B Y K2 T2)) ∧ ((0 : Int) < e → ((1000 ≤ K2 ∧ K2 < 1039) ∧ ((-2147483648 ≤ (zlev K2) ∧ (zlev K2) < 2147483648) ∧ (-2147483648 ≤ lv ∧ lv < 2147483648) ∧ ((zlev K2) < lv → ((k = 0 ∨ k = 1) ∧ Q k A2 B Y K2 T2)) ∧ (lv ≤ (zlev K2) → (0 < d ∧ pzV (d - 1) 100 [.inr (.inr (19 : Nat))] (A2, B, Y, K2, T2) (fun Av101 Bv101 Yv101 Kv101 Tv101 => ((1000 ≤ K2 ∧ K2 < 1039) ∧ (0 < d ∧ pzI (d - 1) 122 [.inr (.inr (19 : Nat)), .inl ((zlev K2) + (1 : Int)), .inl op] (Av101, Bv101, Yv101, Kv101, Tv101) (fun nv102 Av102 Bv102 Yv102 Kv102 Tv102 => ((k = 0 ∨ k = 1) ∧ (nv102 = 0 ∨ nv102 = 1) ∧ (∀ cv103 : Int, (cv103 = 0 ∨ cv103 = 1) → ((-2147483648 ≤ cv103 ∧ cv103 < 2147483648) ∧ (cv103 = (0 : Int) → ((1000 ≤ K2 ∧ K2 < 1039) ∧ (0 < d ∧ pzI (d - 1) 82 [.inr (.inr (2 : Nat)), .inl (zop K2), .inl (0 : Int)] (Av102, Bv102, Yv102, Kv102, Tv102) (fun nv104 Av104 Bv104 Yv104 Kv104 Tv104 => pq d 122 11 [some (.inr (.inr (19 : Nat))), some (.inl lv), some (.inl op), some (.inl cv103), some (.inl (e + (-1 : Int))), none, none] [] (Av104, Bv104, Yv104, Kv104, Tv104) (qI Q))))) ∧ (cv103 ≠ (0 : Int) → ((1000 ≤ K2 ∧ K2 < 1064) ∧ (1000 ≤ (1024 : Nat) ∧ (1024 : Nat) < 1064) ∧ (K2 = (1024 : Nat) → (0 < d ∧ pzV (d - 1) 103 [.inr (.inr (19 : Nat)), .inl (9 : Int), .inl (A2 19 10)] (Av102, Bv102, Yv102, Kv102, Tv102) (fun Av105 Bv105 Yv105 Kv105 Tv105 => ((1000 ≤ K2 ∧ K2 < 1039) ∧ (0 < d ∧ pzI (d - 1) 82 [.inr (.inr (2 : Nat)), .inl (zop K2), .inl (0 : Int)] (Av105, Bv105, Yv105, Kv105, Tv105) (fun nv106 Av106 Bv106 Yv106 Kv106 Tv106 => pq d 122 11 [some (.inr (.inr (19 : Nat))), some (.inl lv), some (.inl op), some (.inl cv103), some (.inl (e + (-1 : Int))), none, none] [] (Av106, Bv106, Yv106, Kv106, Tv106) (qI Q))))))) ∧ (K2 ≠ (1024 : Nat) → ((1000 ≤ K2 ∧ K2 < 1064) ∧ (1000 ≤ (1025 : Nat) ∧ (1025 : Nat) < 1064) ∧ (K2 ≠ (1025 : Nat) → ((1000 ≤ K2 ∧ K2 < 1039) ∧ (0 < d ∧ pzI (d - 1) 82 [.inr (.inr (2 : Nat)), .inl (zop K2), .inl (0 : Int)] (Av102, Bv102, Yv102, Kv102, Tv102) (fun nv107 Av107 Bv107 Yv107 Kv107 Tv107 => pq d 122 11 [some (.inr (.inr (19 : Nat))), some (.inl lv), some (.inl op), some (.inl cv103), some (.inl (e + (-1 : Int))), none, none] [] (Av107, Bv107, Yv107, Kv107, Tv107) (qI Q))))) ∧ (K2 = (1025 : Nat) → (0 < d ∧ pzV (d - 1) 103 [.inr (.inr (19 : Nat)), .inl (9 : Int), .inl (A2 19 10)] (Av102, Bv102, Yv102, Kv102, Tv102) (fun Av108 Bv108 Yv108 Kv108 Tv108 => ((1000 ≤ K2 ∧ K2 < 1039) ∧ (0 < d ∧ pzI (d - 1) 82 [.inr (.inr (2 : Nat)), .inl (zop K2), .inl (0 : Int)] (Av108, Bv108, Yv108, Kv108, Tv108) (fun nv109 Av109 Bv109 Yv109 Kv109 Tv109 => pq d 122 11 [some (.inr (.inr (19 : Nat))), some (.inl lv), some (.inl op), some (.inl cv103), some (.inl (e + (-1 : Int))), none, none] [] (Av109, Bv109, Yv109, Kv109, Tv109) (qI Q))))))))))))))))))))))))
      refine ⟨by omega, fun z1 => ?_, fun z1 => ?_⟩
      · skip
        exact ⟨by omega, q _ _ _ _ hI2 (show k = 0 ∨ k = 1 from by omega)⟩
      · skip
        have f2 := XI_rK hI2
        refine ⟨by omega, ?_⟩
        have f3 := zlev_r (a := K2) (by omega)
        refine ⟨by omega, by omega, fun z5 => ?_, fun z5 => ?_⟩
        · skip
          exact ⟨by omega, q _ _ _ _ hI2 (show k = 0 ∨ k = 1 from by omega)⟩
        · skip
          have f6 := XI_r_19_10 hI2
          refine ⟨by omega, c_100_19 (by omega) hI2  (fun Av101 Kv101 Tv101 xI101 xp101_0 => ?_)⟩
          replace xp101_0 : (Av101 19 6) = (A2 19 6) := xp101_0
          refine ⟨by omega, ?_⟩
          have f7 := zlev_r (a := K2) (by omega)
          refine ⟨by omega, HB _ (by omega) (by omega) _ _ _ _ _ (by omega) xI101  (fun nv102 Av102 Kv102 Tv102 xI102 xp102_0 => ?_)⟩
          replace xp102_0 : nv102 = 0 ∨ nv102 = 1 := xp102_0
          refine ⟨by omega, by omega, fun cv103 w9 => ?_⟩
          refine ⟨by omega, fun z10 => ?_, fun z10 => ?_⟩
          · skip
            refine ⟨by omega, ?_⟩
            have f12 := zop_r (a := K2) (by omega)
            refine ⟨by omega, c_82_2 (by omega) xI102 (show -2147483648 ≤ (zop K2) ∧ (zop K2) ≤ 2147483647 from by omega) (show -2147483648 ≤ (0 : Int) ∧ (0 : Int) ≤ 2147483647 from by omega) (fun nv104 Av104 Kv104 Tv104 xI104 xp104_0 => ?_)⟩
            replace xp104_0 : -1 ≤ nv104 ∧ nv104 < 3000 := xp104_0
            exact ih (cv103) ((e + (-1 : Int))) _ _ _ xI104 (show cv103 = 0 ∨ cv103 = 1 from by omega) (show 0 ≤ (e + (-1 : Int)) ∧ (e + (-1 : Int)) ≤ 3000 from by omega) (by show (e + (-1 : Int)) < _; omega)
          · skip
            refine ⟨by omega, by omega, fun z13 => ?_, fun z13 => ?_⟩
            · skip
              refine ⟨by omega, c_103_19 (by omega) xI102 (show 1 ≤ (9 : Int) ∧ (9 : Int) ≤ 9 from by omega) (show 0 ≤ (A2 19 10) ∧ (A2 19 10) ≤ 3000 from by omega) (fun Av105 Kv105 Tv105 xI105 => ?_)⟩
              refine ⟨by omega, ?_⟩
              have f15 := zop_r (a := K2) (by omega)
              refine ⟨by omega, c_82_2 (by omega) xI105 (show -2147483648 ≤ (zop K2) ∧ (zop K2) ≤ 2147483647 from by omega) (show -2147483648 ≤ (0 : Int) ∧ (0 : Int) ≤ 2147483647 from by omega) (fun nv106 Av106 Kv106 Tv106 xI106 xp106_0 => ?_)⟩
              replace xp106_0 : -1 ≤ nv106 ∧ nv106 < 3000 := xp106_0
              exact ih (cv103) ((e + (-1 : Int))) _ _ _ xI106 (show cv103 = 0 ∨ cv103 = 1 from by omega) (show 0 ≤ (e + (-1 : Int)) ∧ (e + (-1 : Int)) ≤ 3000 from by omega) (by show (e + (-1 : Int)) < _; omega)
            · skip
              refine ⟨by omega, by omega, fun z16 => ?_, fun z16 => ?_⟩
              · skip
                refine ⟨by omega, ?_⟩
                have f18 := zop_r (a := K2) (by omega)
                refine ⟨by omega, c_82_2 (by omega) xI102 (show -2147483648 ≤ (zop K2) ∧ (zop K2) ≤ 2147483647 from by omega) (show -2147483648 ≤ (0 : Int) ∧ (0 : Int) ≤ 2147483647 from by omega) (fun nv107 Av107 Kv107 Tv107 xI107 xp107_0 => ?_)⟩
                replace xp107_0 : -1 ≤ nv107 ∧ nv107 < 3000 := xp107_0
                exact ih (cv103) ((e + (-1 : Int))) _ _ _ xI107 (show cv103 = 0 ∨ cv103 = 1 from by omega) (show 0 ≤ (e + (-1 : Int)) ∧ (e + (-1 : Int)) ≤ 3000 from by omega) (by show (e + (-1 : Int)) < _; omega)
              · skip
                refine ⟨by omega, c_103_19 (by omega) xI102 (show 1 ≤ (9 : Int) ∧ (9 : Int) ≤ 9 from by omega) (show 0 ≤ (A2 19 10) ∧ (A2 19 10) ≤ 3000 from by omega) (fun Av108 Kv108 Tv108 xI108 => ?_)⟩
                refine ⟨by omega, ?_⟩
                have f20 := zop_r (a := K2) (by omega)
                refine ⟨by omega, c_82_2 (by omega) xI108 (show -2147483648 ≤ (zop K2) ∧ (zop K2) ≤ 2147483647 from by omega) (show -2147483648 ≤ (0 : Int) ∧ (0 : Int) ≤ 2147483647 from by omega) (fun nv109 Av109 Kv109 Tv109 xI109 xp109_0 => ?_)⟩
                replace xp109_0 : -1 ≤ nv109 ∧ nv109 < 3000 := xp109_0
                exact ih (cv103) ((e + (-1 : Int))) _ _ _ xI109 (show cv103 = 0 ∨ cv103 = 1 from by omega) (show 0 ≤ (e + (-1 : Int)) ∧ (e + (-1 : Int)) ≤ 3000 from by omega) (by show (e + (-1 : Int)) < _; omega)
  refine pzI_of 6 [(11, [5, 6])] [] ?_
  show (0 < d ∧ pzI (d - 1) 123 [.inr (.inr (19 : Nat)), .inl op] (A, B, Y, K, T) (fun nv1 Av1 Bv1 Yv1 Kv1 Tv1 => pq d 122 11 [some (.inr (.inr (19 : Nat))), some (.inl lv), some (.inl op), some (.inl nv1), some (.inl (3000 : Int)), none, none] [] (Av1, Bv1, Yv1, Kv1, Tv1) (qI Q)))
  refine ⟨by omega, c_123_19 HE HP (by omega) hI (show 0 ≤ op ∧ op ≤ 10 from by omega) (fun nv1 Av1 Kv1 Tv1 xI1 xp1_0 => ?_)⟩
  replace xp1_0 : nv1 = 0 ∨ nv1 = 1 := xp1_0
  exact L11 (((3000 : Int)) + 1).toNat (nv1) ((3000 : Int)) _ _ _ xI1 (show nv1 = 0 ∨ nv1 = 1 from by omega) (show 0 ≤ (3000 : Int) ∧ (3000 : Int) ≤ 3000 from by omega) (by show (3000 : Int) < _; omega)

theorem BC_of {sz : Int} {B Y : zF} {op : Int} (ho : 0 ≤ op ∧ op ≤ 10) (HE : op ≤ 9 → EC sz B Y (op + 1)) (HP : op ≤ 9 → PC sz B Y (op + 1)) : ∀ (n : Nat) (lv : Int), 1 ≤ lv → lv ≤ 9 → 9 - lv < (n : Int) → BC sz B Y op lv := by
  intro n
  induction n with
  | zero => intro lv h1 h2 h3; exfalso; omega
  | succ n ih =>
    intro lv h1 h2 h3 d A K T Q hd hI q
    exact c_122_19 HE HP (fun l h4 h5 => ih l (by omega) h5 (by omega)) hd hI ⟨h1, h2⟩ ho q
set_option maxRecDepth 10000 in
set_option maxHeartbeats 400000 in
theorem c_121r {sz : Int} {d : Nat} {A B Y : zF} {K : Nat} {T : zT} {op : Int} {Q : Int → zF → zF → zF → Nat → zT → Prop} (HE : op ≤ 9 → EC sz B Y (op + 1)) (HP : op ≤ 9 → PC sz B Y (op + 1)) (hd : 20 * (11 - op) + 30 ≤ (d : Int)) (hI : XI 1 sz A K T) (p1 : 0 ≤ op ∧ op ≤ 10) (q : ∀ (r : Int) (A' : zF) (K' : Nat) (T' : zT), XI 1 sz A' K' T' → (r = 0 ∨ r = 1) → Q r A' B Y K' T') : pzI d 121 [.inr (.inr (19 : Nat)), .inl op] (A, B, Y, K, T) Q := by
  refine pzI_of 44 [] [] ?_
  show (0 < d ∧ pzI (d - 1) 122 [.inr (.inr (19 : Nat)), .inl (1 : Int), .inl op] (A, B, Y, K, T) (fun nv1 Av1 Bv1 Yv1 Kv1 Tv1 => ((1000 ≤ Kv1 ∧ Kv1 < 1064) ∧ (1000 ≤ (1028 : Nat) ∧ (1028 : Nat) < 1064) ∧ (Kv1 ≠ (1028 : Nat) → ((nv1 = 0 ∨ nv1 = 1) ∧ Q nv1 Av1 Bv1 Yv1 Kv1 Tv1)) ∧ (Kv1 = (1028 : Nat) → (0 < d ∧ pzI (d - 1) 104 [.inr (.inr (19 : Nat)), .inl op, .inl (Av1 19 10)] (Av1, Bv1, Yv1, Kv1, Tv1) (fun nv2 Av2 Bv2 Yv2 Kv2 Tv2 => ((-2147483648 ≤ nv2 ∧ nv2 < 2147483648) ∧ (nv2 ≠ (0 : Int) → (0 < d ∧ pzV (d - 1) 100 [.inr (.inr (19 : Nat))] (Av2, Bv2, Yv2, Kv2, Tv2) (fun Av3 Bv3 Yv3 Kv3 Tv3 => (0 < d ∧ pzI (d - 1) 121 [.inr (.inr (19 : Nat)), .inl (op + (1 : Int))] (Av3, Bv3, Yv3, Kv3, Tv3) (fun nv4 Av4 Bv4 Yv4 Kv4 Tv4 => ((nv1 = 0 ∨ nv1 = 1) ∧ (nv4 = 0 ∨ nv4 = 1) ∧ (∀ cv5 : Int, (cv5 = 0 ∨ cv5 = 1) → (0 < d ∧ pzV (d - 1) 101 [.inr (.inr (19 : Nat)), .inr (.inr (1029 : Nat))] (Av4, Bv4, Yv4, Kv4, Tv4) (fun Av6 Bv6 Yv6 Kv6 Tv6 => (0 < d ∧ pzI (d - 1) 121 [.inr (.inr (19 : Nat)), .inl (op + (1 : Int))] (Av6, Bv6, Yv6, Kv6, Tv6) (fun nv7 Av7 Bv7 Yv7 Kv7 Tv7 => ((cv5 = 0 ∨ cv5 = 1) ∧ (nv7 = 0 ∨ nv7 = 1) ∧ (∀ cv8 : Int, (cv8 = 0 ∨ cv8 = 1) → (0 < d ∧ pzI (d - 1) 82 [.inr (.inr (2 : Nat)), .inl (12 : Int), .inl (0 : Int)] (Av7, Bv7, Yv7, Kv7, Tv7) (fun nv9 Av9 Bv9 Yv9 Kv9 Tv9 => ((cv8 = 0 ∨ cv8 = 1) ∧ Q cv8 Av9 Bv9 Yv9 Kv9 Tv9)))))))))))))))) ∧ (nv2 = (0 : Int) → ((nv1 = 0 ∨ nv1 = 1) ∧ Q nv1 Av2 Bv2 Yv2 Kv2 Tv2)))))))))
  refine ⟨by omega, BC_of p1 HE HP 9 1 (by omega) (by omega) (by omega) _ _ _ _ _ (by omega) hI  (fun nv1 Av1 Kv1 Tv1 xI1 xp1_0 => ?_)⟩
  replace xp1_0 : nv1 = 0 ∨ nv1 = 1 := xp1_0
  have f1 := XI_rK xI1
  refine ⟨by omega, by omega, fun z2 => ?_, fun z2 => ?_⟩
  · skip
    exact ⟨by omega, q _ _ _ _ xI1 (show nv1 = 0 ∨ nv1 = 1 from by omega)⟩
  · skip
    have f3 := XI_r_19_10 xI1
    refine ⟨by omega, c_104_19 (by omega) xI1 (show 0 ≤ op ∧ op ≤ 10 from by omega) (show 0 ≤ (Av1 19 10) ∧ (Av1 19 10) ≤ 3000 from by omega) (fun nv2 Av2 Kv2 Tv2 xI2 xp2_0 => ?_)⟩
    replace xp2_0 : (nv2 = 1 ∧ op ≤ 9) ∨ nv2 = 0 := xp2_0
    refine ⟨by omega, fun z4 => ?_, fun z4 => ?_⟩
    · skip
      refine ⟨by omega, c_100_19 (by omega) xI2  (fun Av3 Kv3 Tv3 xI3 xp3_0 => ?_)⟩
      replace xp3_0 : (Av3 19 6) = (Av2 19 6) := xp3_0
      refine ⟨by omega, HE (by omega) _ _ _ _ _ (by omega) xI3  (fun nv4 Av4 Kv4 Tv4 xI4 xp4_0 => ?_)⟩
      replace xp4_0 : nv4 = 0 ∨ nv4 = 1 := xp4_0
      refine ⟨by omega, by omega, fun cv5 w5 => ?_⟩
      refine ⟨by omega, c_101_19 (by omega) xI4 (show 1000 ≤ (1029 : Nat) ∧ (1029 : Nat) < 1039 from by omega) (fun Av6 Kv6 Tv6 xI6 => ?_)⟩
      refine ⟨by omega, HE (by omega) _ _ _ _ _ (by omega) xI6  (fun nv7 Av7 Kv7 Tv7 xI7 xp7_0 => ?_)⟩
      replace xp7_0 : nv7 = 0 ∨ nv7 = 1 := xp7_0
      refine ⟨by omega, by omega, fun cv8 w6 => ?_⟩
      refine ⟨by omega, c_82_2 (by omega) xI7 (show -2147483648 ≤ (12 : Int) ∧ (12 : Int) ≤ 2147483647 from by omega) (show -2147483648 ≤ (0 : Int) ∧ (0 : Int) ≤ 2147483647 from by omega) (fun nv9 Av9 Kv9 Tv9 xI9 xp9_0 => ?_)⟩
      replace xp9_0 : -1 ≤ nv9 ∧ nv9 < 3000 := xp9_0
      exact ⟨by omega, q _ _ _ _ xI9 (show cv8 = 0 ∨ cv8 = 1 from by omega)⟩
    · skip
      exact ⟨by omega, q _ _ _ _ xI2 (show nv1 = 0 ∨ nv1 = 1 from by omega)⟩

theorem EP_of {sz : Int} {B Y : zF} : ∀ (n : Nat) (op : Int), 0 ≤ op → op ≤ 10 → 10 - op < (n : Int) → EC sz B Y op ∧ PC sz B Y op := by
  intro n
  induction n with
  | zero => intro op h1 h2 h3; exfalso; omega
  | succ n ih =>
    intro op h1 h2 h3
    refine ⟨fun d A K T Q hd hI q => ?_, fun d A K T Q hd hI q => ?_⟩
    · exact c_121r (fun h => (ih (op + 1) (by omega) (by omega) (by omega)).1) (fun h => (ih (op + 1) (by omega) (by omega) (by omega)).2) hd hI ⟨h1, h2⟩ q
    · exact c_123_19 (fun h => (ih (op + 1) (by omega) (by omega) (by omega)).1) (fun h => (ih (op + 1) (by omega) (by omega) (by omega)).2) (by omega) hI ⟨h1, h2⟩ q
theorem EC_all {sz : Int} {B Y : zF} {op : Int} (h : 0 ≤ op ∧ op ≤ 10) : EC sz B Y op := (EP_of 11 op h.1 h.2 (by omega)).1
set_option maxRecDepth 10000 in
set_option maxHeartbeats 400000 in
theorem c_118_19 {sz : Int} {d : Nat} {A B Y : zF} {K : Nat} {T : zT} {x : Int} {op : Int} {Q : zF → zF → zF → Nat → zT → Prop} (hd : 20 * (11 - op) + 31 ≤ (d : Int)) (hI : XI 1 sz A K T) (p1 : 0 ≤ x ∧ x ≤ 3000) (p2 : 0 ≤ op ∧ op ≤ 10) (q : ∀ (A' : zF) (K' : Nat) (T' : zT), XI 1 sz A' K' T' → Q A' B Y K' T') : pzV d 118 [.inr (.inr (19 : Nat)), .inl x, .inl op] (A, B, Y, K, T) Q := by
  refine pzV_of 15 [] [] ?_
  show (0 < d ∧ pzI (d - 1) 121 [.inr (.inr (19 : Nat)), .inl op] (A, B, Y, K, T) (fun nv1 Av1 Bv1 Yv1 Kv1 Tv1 => ((-2147483648 ≤ nv1 ∧ nv1 < 2147483648) ∧ (nv1 = (0 : Int) → (0 < d ∧ pzI (d - 1) 82 [.inr (.inr (2 : Nat)), .inl (7 : Int), .inl x] (Av1, Bv1, Yv1, Kv1, Tv1) (fun nv2 Av2 Bv2 Yv2 Kv2 Tv2 => Q Av2 Bv2 Yv2 Kv2 Tv2))) ∧ (nv1 ≠ (0 : Int) → (0 < d ∧ pzV (d - 1) 103 [.inr (.inr (19 : Nat)), .inl (6 : Int), .inl x] (Av1, Bv1, Yv1, Kv1, Tv1) (fun Av3 Bv3 Yv3 Kv3 Tv3 => (0 < d ∧ pzI (d - 1) 82 [.inr (.inr (2 : Nat)), .inl (7 : Int), .inl x] (Av3, Bv3, Yv3, Kv3, Tv3) (fun nv4 Av4 Bv4 Yv4 Kv4 Tv4 => Q Av4 Bv4 Yv4 Kv4 Tv4))))))))
  refine ⟨by omega, EC_all (by omega) _ _ _ _ _ (by omega) hI  (fun nv1 Av1 Kv1 Tv1 xI1 xp1_0 => ?_)⟩
  replace xp1_0 : nv1 = 0 ∨ nv1 = 1 := xp1_0
  refine ⟨by omega, fun z1 => ?_, fun z1 => ?_⟩
  · skip
    refine ⟨by omega, c_82_2 (by omega) xI1 (show -2147483648 ≤ (7 : Int) ∧ (7 : Int) ≤ 2147483647 from by omega) (show -2147483648 ≤ x ∧ x ≤ 2147483647 from by omega) (fun nv2 Av2 Kv2 Tv2 xI2 xp2_0 => ?_)⟩
    replace xp2_0 : -1 ≤ nv2 ∧ nv2 < 3000 := xp2_0
    exact q _ _ _ xI2 
  · skip
    refine ⟨by omega, c_103_19 (by omega) xI1 (show 1 ≤ (6 : Int) ∧ (6 : Int) ≤ 9 from by omega) (show 0 ≤ x ∧ x ≤ 3000 from by omega) (fun Av3 Kv3 Tv3 xI3 => ?_)⟩
    refine ⟨by omega, c_82_2 (by omega) xI3 (show -2147483648 ≤ (7 : Int) ∧ (7 : Int) ≤ 2147483647 from by omega) (show -2147483648 ≤ x ∧ x ≤ 2147483647 from by omega) (fun nv4 Av4 Kv4 Tv4 xI4 xp4_0 => ?_)⟩
    replace xp4_0 : -1 ≤ nv4 ∧ nv4 < 3000 := xp4_0
    exact q _ _ _ xI4 

set_option maxRecDepth 10000 in
set_option maxHeartbeats 400000 in
theorem c_119_19 {sz : Int} {d : Nat} {A B Y : zF} {K : Nat} {T : zT} {op : Int} {Q : zF → zF → zF → Nat → zT → Prop} (HS : SC sz B Y op) (hd : 10 * (11 - op) + 301 ≤ (d : Int)) (hI : XI 1 sz A K T) (p1 : 0 ≤ op ∧ op ≤ 10) (q : ∀ (A' : zF) (K' : Nat) (T' : zT), XI 1 sz A' K' T' → Q A' B Y K' T') : pzV d 119 [.inr (.inr (19 : Nat)), .inl op] (A, B, Y, K, T) Q := by
  refine pzV_of 10 [] [] ?_
  show (0 < d ∧ pzV (d - 1) 101 [.inr (.inr (19 : Nat)), .inr (.inr (1035 : Nat))] (A, B, Y, K, T) (fun Av1 Bv1 Yv1 Kv1 Tv1 => (0 < d ∧ pzV (d - 1) 113 [.inr (.inr (19 : Nat)), .inl op] (Av1, Bv1, Yv1, Kv1, Tv1) (fun Av2 Bv2 Yv2 Kv2 Tv2 => (0 < d ∧ pzV (d - 1) 101 [.inr (.inr (19 : Nat)), .inr (.inr (1036 : Nat))] (Av2, Bv2, Yv2, Kv2, Tv2) (fun Av3 Bv3 Yv3 Kv3 Tv3 => Q Av3 Bv3 Yv3 Kv3 Tv3))))))
  refine ⟨by omega, c_101_19 (by omega) hI (show 1000 ≤ (1035 : Nat) ∧ (1035 : Nat) < 1039 from by omega) (fun Av1 Kv1 Tv1 xI1 => ?_)⟩
  refine ⟨by omega, HS _ _ _ _ _ (by omega) xI1  (fun Av2 Kv2 Tv2 xI2 => ?_)⟩
  refine ⟨by omega, c_101_19 (by omega) xI2 (show 1000 ≤ (1036 : Nat) ∧ (1036 : Nat) < 1039 from by omega) (fun Av3 Kv3 Tv3 xI3 => ?_)⟩
  exact q _ _ _ xI3 

set_option maxRecDepth 10000 in
set_option maxHeartbeats 400000 in
theorem c_116_19 {sz : Int} {d : Nat} {A B Y : zF} {K : Nat} {T : zT} {x : Int} {op : Int} {Q : zF → zF → zF → Nat → zT → Prop} (HS : SC sz B Y op) (hd : 10 * (11 - op) + 302 ≤ (d : Int)) (hI : XI 1 sz A K T) (p1 : 0 ≤ x ∧ x ≤ 3000) (p2 : 0 ≤ op ∧ op ≤ 10) (q : ∀ (A' : zF) (K' : Nat) (T' : zT), XI 1 sz A' K' T' → Q A' B Y K' T') : pzV d 116 [.inr (.inr (19 : Nat)), .inl x, .inl op] (A, B, Y, K, T) Q := by
  refine pzV_of 37 [] [] ?_
  show (0 < d ∧ pzV (d - 1) 118 [.inr (.inr (19 : Nat)), .inl x, .inl op] (A, B, Y, K, T) (fun Av1 Bv1 Yv1 Kv1 Tv1 => (0 < d ∧ pzI (d - 1) 82 [.inr (.inr (2 : Nat)), .inl (8 : Int), .inl (0 : Int)] (Av1, Bv1, Yv1, Kv1, Tv1) (fun nv2 Av2 Bv2 Yv2 Kv2 Tv2 => (0 < d ∧ pzV (d - 1) 119 [.inr (.inr (19 : Nat)), .inl op] (Av2, Bv2, Yv2, Kv2, Tv2) (fun Av3 Bv3 Yv3 Kv3 Tv3 => ((1000 ≤ Kv3 ∧ Kv3 < 1064) ∧ (1000 ≤ (1009 : Nat) ∧ (1009 : Nat) < 1064) ∧ (Kv3 = (1009 : Nat) → (0 < d ∧ pzV (d - 1) 100 [.inr (.inr (19 : Nat))] (Av3, Bv3, Yv3, Kv3, Tv3) (fun Av4 Bv4 Yv4 Kv4 Tv4 => (0 < d ∧ pzI (d - 1) 82 [.inr (.inr (2 : Nat)), .inl (9 : Int), .inl (0 : Int)] (Av4, Bv4, Yv4, Kv4, Tv4) (fun nv5 Av5 Bv5 Yv5 Kv5 Tv5 => (0 < d ∧ pzV (d - 1) 83 [.inr (.inr (2 : Nat)), .inl nv2] (Av5, Bv5, Yv5, Kv5, Tv5) (fun Av6 Bv6 Yv6 Kv6 Tv6 => (0 < d ∧ pzV (d - 1) 119 [.inr (.inr (19 : Nat)), .inl op] (Av6, Bv6, Yv6, Kv6, Tv6) (fun Av7 Bv7 Yv7 Kv7 Tv7 => (0 < d ∧ pzV (d - 1) 83 [.inr (.inr (2 : Nat)), .inl nv5] (Av7, Bv7, Yv7, Kv7, Tv7) (fun Av8 Bv8 Yv8 Kv8 Tv8 => Q Av8 Bv8 Yv8 Kv8 Tv8))))))))))) ∧ (Kv3 ≠ (1009 : Nat) → (0 < d ∧ pzV (d - 1) 83 [.inr (.inr (2 : Nat)), .inl nv2] (Av3, Bv3, Yv3, Kv3, Tv3) (fun Av9 Bv9 Yv9 Kv9 Tv9 => Q Av9 Bv9 Yv9 Kv9 Tv9))))))))))
  refine ⟨by omega, c_118_19 (by omega) hI (show 0 ≤ x ∧ x ≤ 3000 from by omega) (show 0 ≤ op ∧ op ≤ 10 from by omega) (fun Av1 Kv1 Tv1 xI1 => ?_)⟩
  refine ⟨by omega, c_82_2 (by omega) xI1 (show -2147483648 ≤ (8 : Int) ∧ (8 : Int) ≤ 2147483647 from by omega) (show -2147483648 ≤ (0 : Int) ∧ (0 : Int) ≤ 2147483647 from by omega) (fun nv2 Av2 Kv2 Tv2 xI2 xp2_0 => ?_)⟩
  replace xp2_0 : -1 ≤ nv2 ∧ nv2 < 3000 := xp2_0
  refine ⟨by omega, c_119_19 HS (by omega) xI2 (show 0 ≤ op ∧ op ≤ 10 from by omega) (fun Av3 Kv3 Tv3 xI3 => ?_)⟩
  have f1 := XI_rK xI3
  refine ⟨by omega, by omega, fun z2 => ?_, fun z2 => ?_⟩
  · skip
    refine ⟨by omega, c_100_19 (by omega) xI3  (fun Av4 Kv4 Tv4 xI4 xp4_0 => ?_)⟩
    replace xp4_0 : (Av4 19 6) = (Av3 19 6) := xp4_0
    refine ⟨by omega, c_82_2 (by omega) xI4 (show -2147483648 ≤ (9 : Int) ∧ (9 : Int) ≤ 2147483647 from by omega) (show -2147483648 ≤ (0 : Int) ∧ (0 : Int) ≤ 2147483647 from by omega) (fun nv5 Av5 Kv5 Tv5 xI5 xp5_0 => ?_)⟩
    replace xp5_0 : -1 ≤ nv5 ∧ nv5 < 3000 := xp5_0
    refine ⟨by omega, c_83_2 (by omega) xI5 (show -2147483648 ≤ nv2 ∧ nv2 ≤ 2147483647 from by omega) (fun Av6 Kv6 Tv6 xI6 => ?_)⟩
    refine ⟨by omega, c_119_19 HS (by omega) xI6 (show 0 ≤ op ∧ op ≤ 10 from by omega) (fun Av7 Kv7 Tv7 xI7 => ?_)⟩
    refine ⟨by omega, c_83_2 (by omega) xI7 (show -2147483648 ≤ nv5 ∧ nv5 ≤ 2147483647 from by omega) (fun Av8 Kv8 Tv8 xI8 => ?_)⟩
    exact q _ _ _ xI8 
  · skip
    refine ⟨by omega, c_83_2 (by omega) xI3 (show -2147483648 ≤ nv2 ∧ nv2 ≤ 2147483647 from by omega) (fun Av9 Kv9 Tv9 xI9 => ?_)⟩
    exact q _ _ _ xI9 

set_option maxRecDepth 10000 in
set_option maxHeartbeats 400000 in
theorem c_117_19 {sz : Int} {d : Nat} {A B Y : zF} {K : Nat} {T : zT} {x : Int} {op : Int} {Q : zF → zF → zF → Nat → zT → Prop} (HS : SC sz B Y op) (hd : 10 * (11 - op) + 302 ≤ (d : Int)) (hI : XI 1 sz A K T) (p1 : 0 ≤ x ∧ x ≤ 3000) (p2 : 0 ≤ op ∧ op ≤ 10) (q : ∀ (A' : zF) (K' : Nat) (T' : zT), XI 1 sz A' K' T' → Q A' B Y K' T') : pzV d 117 [.inr (.inr (19 : Nat)), .inl x, .inl op] (A, B, Y, K, T) Q := by
  refine pzV_of 34 [] [] ?_
  show (0 < d ∧ pzV (d - 1) 118 [.inr (.inr (19 : Nat)), .inl x, .inl op] (A, B, Y, K, T) (fun Av1 Bv1 Yv1 Kv1 Tv1 => (0 < d ∧ pzI (d - 1) 82 [.inr (.inr (2 : Nat)), .inl (8 : Int), .inl (0 : Int)] (Av1, Bv1, Yv1, Kv1, Tv1) (fun nv2 Av2 Bv2 Yv2 Kv2 Tv2 => (0 < d ∧ pzV (d - 1) 119 [.inr (.inr (19 : Nat)), .inl op] (Av2, Bv2, Yv2, Kv2, Tv2) (fun Av3 Bv3 Yv3 Kv3 Tv3 => (0 < d ∧ pzI (d - 1) 82 [.inr (.inr (2 : Nat)), .inl (1 : Int), .inl (0 : Int)] (Av3, Bv3, Yv3, Kv3, Tv3) (fun nv4 Av4 Bv4 Yv4 Kv4 Tv4 => (0 < d ∧ pzI (d - 1) 82 [.inr (.inr (2 : Nat)), .inl (9 : Int), .inl (A 2 12)] (Av4, Bv4, Yv4, Kv4, Tv4) (fun nv5 Av5 Bv5 Yv5 Kv5 Tv5 => (0 < d ∧ pzV (d - 1) 83 [.inr (.inr (2 : Nat)), .inl nv2] (Av5, Bv5, Yv5, Kv5, Tv5) (fun Av6 Bv6 Yv6 Kv6 Tv6 => Q Av6 Bv6 Yv6 Kv6 Tv6))))))))))))
  have f1 := XI_r_2_12 hI
  refine ⟨by omega, c_118_19 (by omega) hI (show 0 ≤ x ∧ x ≤ 3000 from by omega) (show 0 ≤ op ∧ op ≤ 10 from by omega) (fun Av1 Kv1 Tv1 xI1 => ?_)⟩
  refine ⟨by omega, c_82_2 (by omega) xI1 (show -2147483648 ≤ (8 : Int) ∧ (8 : Int) ≤ 2147483647 from by omega) (show -2147483648 ≤ (0 : Int) ∧ (0 : Int) ≤ 2147483647 from by omega) (fun nv2 Av2 Kv2 Tv2 xI2 xp2_0 => ?_)⟩
  replace xp2_0 : -1 ≤ nv2 ∧ nv2 < 3000 := xp2_0
  refine ⟨by omega, c_119_19 HS (by omega) xI2 (show 0 ≤ op ∧ op ≤ 10 from by omega) (fun Av3 Kv3 Tv3 xI3 => ?_)⟩
  refine ⟨by omega, c_82_2 (by omega) xI3 (show -2147483648 ≤ (1 : Int) ∧ (1 : Int) ≤ 2147483647 from by omega) (show -2147483648 ≤ (0 : Int) ∧ (0 : Int) ≤ 2147483647 from by omega) (fun nv4 Av4 Kv4 Tv4 xI4 xp4_0 => ?_)⟩
  replace xp4_0 : -1 ≤ nv4 ∧ nv4 < 3000 := xp4_0
  refine ⟨by omega, c_82_2 (by omega) xI4 (show -2147483648 ≤ (9 : Int) ∧ (9 : Int) ≤ 2147483647 from by omega) (show -2147483648 ≤ (A 2 12) ∧ (A 2 12) ≤ 2147483647 from by omega) (fun nv5 Av5 Kv5 Tv5 xI5 xp5_0 => ?_)⟩
  replace xp5_0 : -1 ≤ nv5 ∧ nv5 < 3000 := xp5_0
  refine ⟨by omega, c_83_2 (by omega) xI5 (show -2147483648 ≤ nv2 ∧ nv2 ≤ 2147483647 from by omega) (fun Av6 Kv6 Tv6 xI6 => ?_)⟩
  exact q _ _ _ xI6 

set_option maxRecDepth 10000 in
set_option maxHeartbeats 400000 in
theorem c_115_19 {sz : Int} {d : Nat} {A B Y : zF} {K : Nat} {T : zT} {op : Int} {Q : zF → zF → zF → Nat → zT → Prop} (hd : 10 * (10 - op) + 300 ≤ (d : Int)) (hI : XI 1 sz A K T) (p1 : 0 ≤ op ∧ op ≤ 10) (q : ∀ (A' : zF) (K' : Nat) (T' : zT), XI 1 sz A' K' T' → Q A' B Y K' T') : pzV d 115 [.inr (.inr (19 : Nat)), .inl op] (A, B, Y, K, T) Q := by
  have L118 : ∀ (c : Int) (t : Int) (A2 : zF) (K2 : Nat) (T2 : zT), XI 1 sz A2 K2 T2 → (c = 0 ∨ c = 1) → (-1 ≤ t ∧ t ≤ 51) → pq d 115 118 [some (.inr (.inr (19 : Nat))), some (.inl op), none, some (.inl c), some (.inl t), none] [] (A2, B, Y, K2, T2) (qV Q) := by
    intro c t A2 K2 T2 hI2 i0 i1
    refine pq_of 17 [(78, [2]), (118, [2, 5])] [] ?_
    show (0 < d ∧ pzV (d - 1) 101 [.inr (.inr (19 : Nat)), .inr (.inr (1037 : Nat))] (A2, B, Y, K2, T2) (fun Av201 Bv201 Yv201 Kv201 Tv201 => ((-2147483648 ≤ c ∧ c < 2147483648) ∧ (c = (0 : Int) → ((-2147483648 ≤ c ∧ c < 2147483648) ∧ (c = (0 : Int) → (0 < d ∧ pzI (d - 1) 131 [.inr (.inr (19 : Nat)), .inl t] (Av201, Bv201, Yv201, Kv201, Tv201) (fun nv202 Av202 Bv202 Yv202 Kv202 Tv202 => (0 < d ∧ pzI (d - 1) 82 [.inr (.inr (2 : Nat)), .inl (4 : Int), .inl nv202] (Av202, Bv202, Yv202, Kv202, Tv202) (fun nv203 Av203 Bv203 Yv203 Kv203 Tv203 => Q Av203 Bv203 Yv203 Kv203 Tv203))))) ∧ (c ≠ (0 : Int) → (0 < d ∧ pzI (d - 1) 82 [.inr (.inr (2 : Nat)), .inl (4 : Int), .inl t] (Av201, Bv201, Yv201, Kv201, Tv201) (fun nv204 Av204 Bv204 Yv204 Kv204 Tv204 => Q Av204 Bv204 Yv204 Kv204 Tv204))))) ∧ (c ≠ (0 : Int) → ((-2147483648 ≤ c ∧ c < 2147483648) ∧ (c = (0 : Int) → (0 < d ∧ pzI (d - 1) 131 [.inr (.inr (19 : Nat)), .inl t] (Av201, Bv201, Yv201, Kv201, Tv201) (fun nv205 Av205 Bv205 Yv205 Kv205 Tv205 => (0 < d ∧ pzI (d - 1) 82 [.inr (.inr (2 : Nat)), .inl (6 : Int), .inl nv205] (Av205, Bv205, Yv205, Kv205, Tv205) (fun nv206 Av206 Bv206 Yv206 Kv206 Tv206 => Q Av206 Bv206 Yv206 Kv206 Tv206))))) ∧ (c ≠ (0 : Int) → (0 < d ∧ pzI (d - 1) 82 [.inr (.inr (2 : Nat)), .inl (6 : Int), .inl t] (Av201, Bv201, Yv201, Kv201, Tv201) (fun nv207 Av207 Bv207 Yv207 Kv207 Tv207 => Q Av207 Bv207 Yv207 Kv207 Tv207))))))))
    refine ⟨by omega, c_101_19 (by omega) hI2 (show 1000 ≤ (1037 : Nat) ∧ (1037 : Nat) < 1039 from by omega) (fun Av201 Kv201 Tv201 xI201 => ?_)⟩
    refine ⟨by omega, fun z1 => ?_, fun z1 => ?_⟩
    · skip
      refine ⟨by omega, fun z2 => ?_, fun z2 => ?_⟩
      · skip
        refine ⟨by omega, c_131_19 (by omega) xI201 (show -1 ≤ t ∧ t ≤ 51 from by omega) (fun nv202 xp202_0 => ?_)⟩
        replace xp202_0 : -2147483648 ≤ nv202 ∧ nv202 ≤ 2147483647 := xp202_0
        refine ⟨by omega, c_82_2 (by omega) xI201 (show -2147483648 ≤ (4 : Int) ∧ (4 : Int) ≤ 2147483647 from by omega) (show -2147483648 ≤ nv202 ∧ nv202 ≤ 2147483647 from by omega) (fun nv203 Av203 Kv203 Tv203 xI203 xp203_0 => ?_)⟩
        replace xp203_0 : -1 ≤ nv203 ∧ nv203 < 3000 := xp203_0
        exact q _ _ _ xI203 
      · skip
        refine ⟨by omega, c_82_2 (by omega) xI201 (show -2147483648 ≤ (4 : Int) ∧ (4 : Int) ≤ 2147483647 from by omega) (show -2147483648 ≤ t ∧ t ≤ 2147483647 from by omega) (fun nv204 Av204 Kv204 Tv204 xI204 xp204_0 => ?_)⟩
        replace xp204_0 : -1 ≤ nv204 ∧ nv204 < 3000 := xp204_0
        exact q _ _ _ xI204 
    · skip
      refine ⟨by omega, fun z3 => ?_, fun z3 => ?_⟩
      · skip
        refine ⟨by omega, c_131_19 (by omega) xI201 (show -1 ≤ t ∧ t ≤ 51 from by omega) (fun nv205 xp205_0 => ?_)⟩
        replace xp205_0 : -2147483648 ≤ nv205 ∧ nv205 ≤ 2147483647 := xp205_0
        refine ⟨by omega, c_82_2 (by omega) xI201 (show -2147483648 ≤ (6 : Int) ∧ (6 : Int) ≤ 2147483647 from by omega) (show -2147483648 ≤ nv205 ∧ nv205 ≤ 2147483647 from by omega) (fun nv206 Av206 Kv206 Tv206 xI206 xp206_0 => ?_)⟩
        replace xp206_0 : -1 ≤ nv206 ∧ nv206 < 3000 := xp206_0
        exact q _ _ _ xI206 
      · skip
        refine ⟨by omega, c_82_2 (by omega) xI201 (show -2147483648 ≤ (6 : Int) ∧ (6 : Int) ≤ 2147483647 from by omega) (show -2147483648 ≤ t ∧ t ≤ 2147483647 from by omega) (fun nv207 Av207 Kv207 Tv207 xI207 xp207_0 => ?_)⟩
        replace xp207_0 : -1 ≤ nv207 ∧ nv207 < 3000 := xp207_0
        exact q _ _ _ xI207 
  have L78 : ∀ (c : Int) (t : Int) (A2 : zF) (K2 : Nat) (T2 : zT), XI 1 sz A2 K2 T2 → (c = 0 ∨ c = 1) → (-1 ≤ t ∧ t ≤ 51) → (op ≤ 9) → pq d 115 78 [some (.inr (.inr (19 : Nat))), some (.inl op), none, some (.inl c), some (.inl t), none] [] (A2, B, Y, K2, T2) (qV Q) := by
    intro c t A2 K2 T2 hI2 i0 i1 i2
    refine pq_of 20 [(78, [2]), (118, [2, 5])] [] ?_
    show (0 < d ∧ pzV (d - 1) 101 [.inr (.inr (19 : Nat)), .inr (.inr (1030 : Nat))] (A2, B, Y, K2, T2) (fun Av101 Bv101 Yv101 Kv101 Tv101 => (0 < d ∧ pzI (d - 1) 121 [.inr (.inr (19 : Nat)), .inl (op + (1 : Int))] (Av101, Bv101, Yv101, Kv101, Tv101) (fun nv102 Av102 Bv102 Yv102 Kv102 Tv102 => ((-2147483648 ≤ nv102 ∧ nv102 < 2147483648) ∧ (nv102 = (0 : Int) → pq d 115 118 [some (.inr (.inr (19 : Nat))), some (.inl op), none, some (.inl c), some (.inl t), none] [] (Av102, Bv102, Yv102, Kv102, Tv102) (qV Q)) ∧ (nv102 ≠ (0 : Int) → (0 < d ∧ pzI (d - 1) 130 [.inr (.inr (19 : Nat)), .inl t] (Av102, Bv102, Yv102, Kv102, Tv102) (fun nv103 Av103 Bv103 Yv103 Kv103 Tv103 => ((-2147483648 ≤ nv103 ∧ nv103 < 2147483648) ∧ (nv103 ≠ (0 : Int) → pq d 115 118 [some (.inr (.inr (19 : Nat))), some (.inl op), none, some (.inl c), some (.inl t), none] [] (Av103, Bv103, Yv103, Kv103, Tv103) (qV Q)) ∧ (nv103 = (0 : Int) → (0 < d ∧ pzV (d - 1) 103 [.inr (.inr (19 : Nat)), .inl (8 : Int), .inl (A2 19 10)] (Av103, Bv103, Yv103, Kv103, Tv103) (fun Av104 Bv104 Yv104 Kv104 Tv104 => pq d 115 118 [some (.inr (.inr (19 : Nat))), some (.inl op), none, some (.inl c), some (.inl t), none] [] (Av104, Bv104, Yv104, Kv104, Tv104) (qV Q)))))))))))))
    have f1 := XI_r_19_10 hI2
    refine ⟨by omega, c_101_19 (by omega) hI2 (show 1000 ≤ (1030 : Nat) ∧ (1030 : Nat) < 1039 from by omega) (fun Av101 Kv101 Tv101 xI101 => ?_)⟩
    refine ⟨by omega, EC_all (by omega) _ _ _ _ _ (by omega) xI101  (fun nv102 Av102 Kv102 Tv102 xI102 xp102_0 => ?_)⟩
    replace xp102_0 : nv102 = 0 ∨ nv102 = 1 := xp102_0
    refine ⟨by omega, fun z2 => ?_, fun z2 => ?_⟩
    · skip
      exact L118 (c) (t) _ _ _ xI102 (show c = 0 ∨ c = 1 from by omega) (show -1 ≤ t ∧ t ≤ 51 from by omega)
    · skip
      refine ⟨by omega, c_130_19 (by omega) xI102 (show -1 ≤ t ∧ t ≤ 51 from by omega) (fun nv103 xp103_0 => ?_)⟩
      replace xp103_0 : nv103 = 0 ∨ nv103 = 1 := xp103_0
      refine ⟨by omega, fun z3 => ?_, fun z3 => ?_⟩
      · skip
        exact L118 (c) (t) _ _ _ xI102 (show c = 0 ∨ c = 1 from by omega) (show -1 ≤ t ∧ t ≤ 51 from by omega)
      · skip
        refine ⟨by omega, c_103_19 (by omega) xI102 (show 1 ≤ (8 : Int) ∧ (8 : Int) ≤ 9 from by omega) (show 0 ≤ (A2 19 10) ∧ (A2 19 10) ≤ 3000 from by omega) (fun Av104 Kv104 Tv104 xI104 => ?_)⟩
        exact L118 (c) (t) _ _ _ xI104 (show c = 0 ∨ c = 1 from by omega) (show -1 ≤ t ∧ t ≤ 51 from by omega)
  refine pzV_of 42 [(78, [2]), (118, [2, 5])] [] ?_
  show (0 < d ∧ pzV (d - 1) 100 [.inr (.inr (19 : Nat))] (A, B, Y, K, T) (fun Av1 Bv1 Yv1 Kv1 Tv1 => ((1000 ≤ Kv1 ∧ Kv1 < 1064) ∧ (1000 ≤ (1033 : Nat) ∧ (1033 : Nat) < 1064) ∧ (Kv1 ≠ (1033 : Nat) → (0 < d ∧ pzI (d - 1) 129 [.inr (.inr (19 : Nat)), .inl (A 19 8), .inl (0 : Int)] (Av1, Bv1, Yv1, Kv1, Tv1) (fun nv2 Av2 Bv2 Yv2 Kv2 Tv2 => ((-2147483648 ≤ nv2 ∧ nv2 < 2147483648) ∧ (-2147483648 ≤ (-1 : Int) ∧ (-1 : Int) < 2147483648) ∧ (nv2 = (-1 : Int) → Q Av2 Bv2 Yv2 Kv2 Tv2) ∧ (nv2 ≠ (-1 : Int) → ((0 ≤ (A 19 8) ∧ (A 19 8) < (3001 : Int)) ∧ (0 < d ∧ pzI (d - 1) 104 [.inr (.inr (19 : Nat)), .inl op, .inl (Av2 22 ((A 19 8)).toNat)] (Av2, Bv2, Yv2, Kv2, Tv2) (fun nv3 Av3 Bv3 Yv3 Kv3 Tv3 => ((-2147483648 ≤ nv3 ∧ nv3 < 2147483648) ∧ (nv3 ≠ (0 : Int) → (0 < d ∧ pzI (d - 1) 82 [.inr (.inr (2 : Nat)), .inl (1 : Int), .inl (0 : Int)] (Av3, Bv3, Yv3, Kv3, Tv3) (fun nv4 Av4 Bv4 Yv4 Kv4 Tv4 => ((-2147483648 ≤ (0 : Int) ∧ (0 : Int) < 2147483648) ∧ ((0 : Int) = (0 : Int) → pq d 115 78 [some (.inr (.inr (19 : Nat))), some (.inl op), none, some (.inl (0 : Int)), some (.inl nv2), none] [] (Av4, Bv4, Yv4, Kv4, Tv4) (qV Q)) ∧ ((0 : Int) ≠ (0 : Int) → (0 < d ∧ pzV (d - 1) 120 [.inr (.inr (19 : Nat)), .inl (op + (1 : Int))] (Av4, Bv4, Yv4, Kv4, Tv4) (fun Av5 Bv5 Yv5 Kv5 Tv5 => pq d 115 78 [some (.inr (.inr (19 : Nat))), some (.inl op), none, some (.inl (0 : Int)), some (.inl nv2), none] [] (Av5, Bv5, Yv5, Kv5, Tv5) (qV Q)))))))) ∧ (nv3 = (0 : Int) → Q Av3 Bv3 Yv3 Kv3 Tv3)))))))))) ∧ (Kv1 = (1033 : Nat) → (0 < d ∧ pzI (d - 1) 129 [.inr (.inr (19 : Nat)), .inl (A 19 8), .inl (1 : Int)] (Av1, Bv1, Yv1, Kv1, Tv1) (fun nv6 Av6 Bv6 Yv6 Kv6 Tv6 => ((-2147483648 ≤ nv6 ∧ nv6 < 2147483648) ∧ (-2147483648 ≤ (-1 : Int) ∧ (-1 : Int) < 2147483648) ∧ (nv6 = (-1 : Int) → Q Av6 Bv6 Yv6 Kv6 Tv6) ∧ (nv6 ≠ (-1 : Int) → ((0 ≤ (A 19 8) ∧ (A 19 8) < (3001 : Int)) ∧ (0 < d ∧ pzI (d - 1) 104 [.inr (.inr (19 : Nat)), .inl op, .inl (Av6 22 ((A 19 8)).toNat)] (Av6, Bv6, Yv6, Kv6, Tv6) (fun nv7 Av7 Bv7 Yv7 Kv7 Tv7 => ((-2147483648 ≤ nv7 ∧ nv7 < 2147483648) ∧ (nv7 ≠ (0 : Int) → (0 < d ∧ pzI (d - 1) 82 [.inr (.inr (2 : Nat)), .inl (1 : Int), .inl (0 : Int)] (Av7, Bv7, Yv7, Kv7, Tv7) (fun nv8 Av8 Bv8 Yv8 Kv8 Tv8 => ((-2147483648 ≤ (1 : Int) ∧ (1 : Int) < 2147483648) ∧ ((1 : Int) = (0 : Int) → pq d 115 78 [some (.inr (.inr (19 : Nat))), some (.inl op), none, some (.inl (1 : Int)), some (.inl nv6), none] [] (Av8, Bv8, Yv8, Kv8, Tv8) (qV Q)) ∧ ((1 : Int) ≠ (0 : Int) → (0 < d ∧ pzV (d - 1) 120 [.inr (.inr (19 : Nat)), .inl (op + (1 : Int))] (Av8, Bv8, Yv8, Kv8, Tv8) (fun Av9 Bv9 Yv9 Kv9 Tv9 => pq d 115 78 [some (.inr (.inr (19 : Nat))), some (.inl op), none, some (.inl (1 : Int)), some (.inl nv6), none] [] (Av9, Bv9, Yv9, Kv9, Tv9) (qV Q)))))))) ∧ (nv7 = (0 : Int) → Q Av7 Bv7 Yv7 Kv7 Tv7)))))))))))))
  have f1 := XI_r_19_8 hI
  refine ⟨by omega, c_100_19 (by omega) hI  (fun Av1 Kv1 Tv1 xI1 xp1_0 => ?_)⟩
  replace xp1_0 : (Av1 19 6) = (A 19 6) := xp1_0
  have f2 := XI_rK xI1
  refine ⟨by omega, by omega, fun z3 => ?_, fun z3 => ?_⟩
  · skip
    refine ⟨by omega, c_129_19 (by omega) xI1 (show 0 ≤ (A 19 8) ∧ (A 19 8) ≤ 3000 from by omega) (show (0 : Int) = 0 ∨ (0 : Int) = 1 from by omega) (fun nv2 Av2 Kv2 Tv2 xI2 xp2_0 => ?_)⟩
    replace xp2_0 : -1 ≤ nv2 ∧ nv2 ≤ 51 := xp2_0
    refine ⟨by omega, by omega, fun z4 => ?_, fun z4 => ?_⟩
    · skip
      exact q _ _ _ xI2 
    · skip
      refine ⟨by omega, ?_⟩
      have f5 := XI_r_22 xI2 (((A 19 8)).toNat)
      refine ⟨by omega, c_104_19 (by omega) xI2 (show 0 ≤ op ∧ op ≤ 10 from by omega) (show 0 ≤ (Av2 22 ((A 19 8)).toNat) ∧ (Av2 22 ((A 19 8)).toNat) ≤ 3000 from by omega) (fun nv3 Av3 Kv3 Tv3 xI3 xp3_0 => ?_)⟩
      replace xp3_0 : (nv3 = 1 ∧ op ≤ 9) ∨ nv3 = 0 := xp3_0
      refine ⟨by omega, fun z6 => ?_, fun z6 => ?_⟩
      · skip
        refine ⟨by omega, c_82_2 (by omega) xI3 (show -2147483648 ≤ (1 : Int) ∧ (1 : Int) ≤ 2147483647 from by omega) (show -2147483648 ≤ (0 : Int) ∧ (0 : Int) ≤ 2147483647 from by omega) (fun nv4 Av4 Kv4 Tv4 xI4 xp4_0 => ?_)⟩
        replace xp4_0 : -1 ≤ nv4 ∧ nv4 < 3000 := xp4_0
        refine ⟨by omega, fun z7 => ?_, fun z7 => ?_⟩
        · skip
          exact L78 ((0 : Int)) (nv2) _ _ _ xI4 (show (0 : Int) = 0 ∨ (0 : Int) = 1 from by omega) (show -1 ≤ nv2 ∧ nv2 ≤ 51 from by omega) (show op ≤ 9 from by omega)
        · skip
          exact absurd z7 (by decide)
      · skip
        exact q _ _ _ xI3 
  · skip
    refine ⟨by omega, c_129_19 (by omega) xI1 (show 0 ≤ (A 19 8) ∧ (A 19 8) ≤ 3000 from by omega) (show (1 : Int) = 0 ∨ (1 : Int) = 1 from by omega) (fun nv6 Av6 Kv6 Tv6 xI6 xp6_0 => ?_)⟩
    replace xp6_0 : -1 ≤ nv6 ∧ nv6 ≤ 51 := xp6_0
    refine ⟨by omega, by omega, fun z8 => ?_, fun z8 => ?_⟩
    · skip
      exact q _ _ _ xI6 
    · skip
      refine ⟨by omega, ?_⟩
      have f9 := XI_r_22 xI6 (((A 19 8)).toNat)
      refine ⟨by omega, c_104_19 (by omega) xI6 (show 0 ≤ op ∧ op ≤ 10 from by omega) (show 0 ≤ (Av6 22 ((A 19 8)).toNat) ∧ (Av6 22 ((A 19 8)).toNat) ≤ 3000 from by omega) (fun nv7 Av7 Kv7 Tv7 xI7 xp7_0 => ?_)⟩
      replace xp7_0 : (nv7 = 1 ∧ op ≤ 9) ∨ nv7 = 0 := xp7_0
      refine ⟨by omega, fun z10 => ?_, fun z10 => ?_⟩
      · skip
        refine ⟨by omega, c_82_2 (by omega) xI7 (show -2147483648 ≤ (1 : Int) ∧ (1 : Int) ≤ 2147483647 from by omega) (show -2147483648 ≤ (0 : Int) ∧ (0 : Int) ≤ 2147483647 from by omega) (fun nv8 Av8 Kv8 Tv8 xI8 xp8_0 => ?_)⟩
        replace xp8_0 : -1 ≤ nv8 ∧ nv8 < 3000 := xp8_0
        refine ⟨by omega, fun z11 => ?_, fun z11 => ?_⟩
        · skip
          exact absurd z11 (by decide)
        · skip
          refine ⟨by omega, c_120_19 (EC_all (by omega)) (by omega) xI8 (show 0 ≤ (op + (1 : Int)) ∧ (op + (1 : Int)) ≤ 10 from by omega) (fun Av9 Kv9 Tv9 xI9 => ?_)⟩
          exact L78 ((1 : Int)) (nv6) _ _ _ xI9 (show (1 : Int) = 0 ∨ (1 : Int) = 1 from by omega) (show -1 ≤ nv6 ∧ nv6 ≤ 51 from by omega) (show op ≤ 9 from by omega)
      · skip
        exact q _ _ _ xI7 

set_option maxRecDepth 10000 in
set_option maxHeartbeats 400000 in
theorem c_114_19 {sz : Int} {d : Nat} {A B Y : zF} {K : Nat} {T : zT} {op : Int} {Q : zF → zF → zF → Nat → zT → Prop} (HS : op ≤ 9 → SC sz B Y (op + 1)) (hd : 10 * (10 - op) + 303 ≤ (d : Int)) (hI : XI 1 sz A K T) (p1 : 0 ≤ op ∧ op ≤ 10) (q : ∀ (A' : zF) (K' : Nat) (T' : zT), XI 1 sz A' K' T' → Q A' B Y K' T') : pzV d 114 [.inr (.inr (19 : Nat)), .inl op] (A, B, Y, K, T) Q := by
  refine pzV_of 37 [] [] ?_
  show ((1000 ≤ K ∧ K < 1064) ∧ (1000 ≤ (1000 : Nat) ∧ (1000 : Nat) < 1064) ∧ (K ≠ (1000 : Nat) → (0 < d ∧ pzI (d - 1) 104 [.inr (.inr (19 : Nat)), .inl op, .inl (A 19 10)] (A, B, Y, K, T) (fun nv1 Av1 Bv1 Yv1 Kv1 Tv1 => ((-2147483648 ≤ nv1 ∧ nv1 < 2147483648) ∧ (nv1 ≠ (0 : Int) → (0 < d ∧ pzI (d - 1) 82 [.inr (.inr (2 : Nat)), .inl (1 : Int), .inl (0 : Int)] (Av1, Bv1, Yv1, Kv1, Tv1) (fun nv2 Av2 Bv2 Yv2 Kv2 Tv2 => (0 < d ∧ pzV (d - 1) 100 [.inr (.inr (19 : Nat))] (Av2, Bv2, Yv2, Kv2, Tv2) (fun Av3 Bv3 Yv3 Kv3 Tv3 => ((1000 ≤ K ∧ K < 1064) ∧ (1000 ≤ (1008 : Nat) ∧ (1008 : Nat) < 1064) ∧ (K ≠ (1008 : Nat) → ((1000 ≤ K ∧ K < 1064) ∧ (1000 ≤ (1010 : Nat) ∧ (1010 : Nat) < 1064) ∧ (K ≠ (1010 : Nat) → (0 < d ∧ pzV (d - 1) 101 [.inr (.inr (19 : Nat)), .inr (.inr (1037 : Nat))] (Av3, Bv3, Yv3, Kv3, Tv3) (fun Av4 Bv4 Yv4 Kv4 Tv4 => Q Av4 Bv4 Yv4 Kv4 Tv4))) ∧ (K = (1010 : Nat) → (0 < d ∧ pzV (d - 1) 117 [.inr (.inr (19 : Nat)), .inl (A 19 10), .inl (op + (1 : Int))] (Av3, Bv3, Yv3, Kv3, Tv3) (fun Av5 Bv5 Yv5 Kv5 Tv5 => Q Av5 Bv5 Yv5 Kv5 Tv5))))) ∧ (K = (1008 : Nat) → (0 < d ∧ pzV (d - 1) 116 [.inr (.inr (19 : Nat)), .inl (A 19 10), .inl (op + (1 : Int))] (Av3, Bv3, Yv3, Kv3, Tv3) (fun Av6 Bv6 Yv6 Kv6 Tv6 => Q Av6 Bv6 Yv6 Kv6 Tv6))))))))) ∧ (nv1 = (0 : Int) → Q Av1 Bv1 Yv1 Kv1 Tv1))))) ∧ (K = (1000 : Nat) → (0 < d ∧ pzV (d - 1) 115 [.inr (.inr (19 : Nat)), .inl op] (A, B, Y, K, T) (fun Av7 Bv7 Yv7 Kv7 Tv7 => Q Av7 Bv7 Yv7 Kv7 Tv7))))
  have f1 := XI_rK hI
  refine ⟨by omega, by omega, fun z2 => ?_, fun z2 => ?_⟩
  · skip
    have f3 := XI_r_19_10 hI
    refine ⟨by omega, c_104_19 (by omega) hI (show 0 ≤ op ∧ op ≤ 10 from by omega) (show 0 ≤ (A 19 10) ∧ (A 19 10) ≤ 3000 from by omega) (fun nv1 Av1 Kv1 Tv1 xI1 xp1_0 => ?_)⟩
    replace xp1_0 : (nv1 = 1 ∧ op ≤ 9) ∨ nv1 = 0 := xp1_0
    refine ⟨by omega, fun z4 => ?_, fun z4 => ?_⟩
    · skip
      refine ⟨by omega, c_82_2 (by omega) xI1 (show -2147483648 ≤ (1 : Int) ∧ (1 : Int) ≤ 2147483647 from by omega) (show -2147483648 ≤ (0 : Int) ∧ (0 : Int) ≤ 2147483647 from by omega) (fun nv2 Av2 Kv2 Tv2 xI2 xp2_0 => ?_)⟩
      replace xp2_0 : -1 ≤ nv2 ∧ nv2 < 3000 := xp2_0
      refine ⟨by omega, c_100_19 (by omega) xI2  (fun Av3 Kv3 Tv3 xI3 xp3_0 => ?_)⟩
      replace xp3_0 : (Av3 19 6) = (Av2 19 6) := xp3_0
      refine ⟨by omega, by omega, fun z5 => ?_, fun z5 => ?_⟩
      · skip
        refine ⟨by omega, by omega, fun z6 => ?_, fun z6 => ?_⟩
        · skip
          refine ⟨by omega, c_101_19 (by omega) xI3 (show 1000 ≤ (1037 : Nat) ∧ (1037 : Nat) < 1039 from by omega) (fun Av4 Kv4 Tv4 xI4 => ?_)⟩
          exact q _ _ _ xI4 
        · skip
          refine ⟨by omega, c_117_19 (HS (by omega)) (by omega) xI3 (show 0 ≤ (A 19 10) ∧ (A 19 10) ≤ 3000 from by omega) (show 0 ≤ (op + (1 : Int)) ∧ (op + (1 : Int)) ≤ 10 from by omega) (fun Av5 Kv5 Tv5 xI5 => ?_)⟩
          exact q _ _ _ xI5 
      · skip
        refine ⟨by omega, c_116_19 (HS (by omega)) (by omega) xI3 (show 0 ≤ (A 19 10) ∧ (A 19 10) ≤ 3000 from by omega) (show 0 ≤ (op + (1 : Int)) ∧ (op + (1 : Int)) ≤ 10 from by omega) (fun Av6 Kv6 Tv6 xI6 => ?_)⟩
        exact q _ _ _ xI6 
    · skip
      exact q _ _ _ xI1 
  · skip
    refine ⟨by omega, c_115_19 (by omega) hI (show 0 ≤ op ∧ op ≤ 10 from by omega) (fun Av7 Kv7 Tv7 xI7 => ?_)⟩
    exact q _ _ _ xI7 

set_option maxRecDepth 10000 in
set_option maxHeartbeats 400000 in
theorem c_113r {sz : Int} {d : Nat} {A B Y : zF} {K : Nat} {T : zT} {op : Int} {Q : zF → zF → zF → Nat → zT → Prop} (HS : op ≤ 9 → SC sz B Y (op + 1)) (hd : 10 * (10 - op) + 304 ≤ (d : Int)) (hI : XI 1 sz A K T) (p1 : 0 ≤ op ∧ op ≤ 10) (q : ∀ (A' : zF) (K' : Nat) (T' : zT), XI 1 sz A' K' T' → Q A' B Y K' T') : pzV d 113 [.inr (.inr (19 : Nat)), .inl op] (A, B, Y, K, T) Q := by
  have L4 : ∀ (n : Nat) (e : Int) (A2 : zF) (K2 : Nat) (T2 : zT), XI 1 sz A2 K2 T2 → (0 ≤ e ∧ e ≤ 3000) → (e) < (n : Int) → pq d 113 4 [some (.inr (.inr (19 : Nat))), some (.inl op), some (.inl e)] [] (A2, B, Y, K2, T2) (qV Q) := by
    intro n
    induction n with
    | zero =>
      intro e A2 K2 T2 hI2 i0 hm
      exfalso
      omega
    | succ n ih =>
      intro e A2 K2 T2 hI2 i0 hm
      refine pq_of 18 [(4, [])] [] ?_
      show ((-2147483648 ≤ e ∧ e < 2147483648) ∧ (e ≤ (0 : Int) → Q A2 B Y K2 T2) ∧ ((0 : Int) < e → ((1000 ≤ K2 ∧ K2 < 1039) ∧ (0 < d ∧ pzI (d - 1) 84 [.inr (.inr K2)] (A2, B, Y, K2, T2) (fun nv101 Av101 Bv101 Yv101 Kv101 Tv101 => ((-2147483648 ≤ nv101 ∧ nv101 < 2147483648) ∧ (nv101 = (0 : Int) → Q Av101 Bv101 Yv101 Kv101 Tv101) ∧ (nv101 ≠ (0 : Int) → (0 < d ∧ pzV (d - 1) 114 [.inr (.inr (19 : Nat)), .inl op] ((zu Av101 2 14 ((Av101 2 14) + (1 : Int))), Bv101, Yv101, Kv101, Tv101) (fun Av102 Bv102 Yv102 Kv102 Tv102 => pq d 113 4 [some (.inr (.inr (19 : Nat))), some (.inl op), some (.inl (e + (-1 : Int)))] [] (Av102, Bv102, Yv102, Kv102, Tv102) (qV Q))))))))))
      refine ⟨by omega, fun z1 => ?_, fun z1 => ?_⟩
      · skip
        exact q _ _ _ hI2 
      · skip
        have f2 := XI_rK hI2
        refine ⟨by omega, by omega, c_84 (by omega) (show 1000 ≤ K2 ∧ K2 < 1039 from by omega) (fun nv101 xp101_0 => ?_)⟩
        replace xp101_0 : nv101 = 0 ∨ nv101 = 1 := xp101_0
        refine ⟨by omega, fun z3 => ?_, fun z3 => ?_⟩
        · skip
          exact q _ _ _ hI2 
        · skip
          have hI4 := XI_w_2_14 (v := ((A2 2 14) + (1 : Int))) hI2
          refine ⟨by omega, c_114_19 HS (by omega) hI4 (show 0 ≤ op ∧ op ≤ 10 from by omega) (fun Av102 Kv102 Tv102 xI102 => ?_)⟩
          exact ih ((e + (-1 : Int))) _ _ _ xI102 (show 0 ≤ (e + (-1 : Int)) ∧ (e + (-1 : Int)) ≤ 3000 from by omega) (by show (e + (-1 : Int)) < _; omega)
  refine pzV_of 2 [(4, [])] [] ?_
  show pq d 113 4 [some (.inr (.inr (19 : Nat))), some (.inl op), some (.inl (3000 : Int))] [] (A, B, Y, K, T) (qV Q)
  exact L4 (((3000 : Int)) + 1).toNat ((3000 : Int)) _ _ _ hI (show 0 ≤ (3000 : Int) ∧ (3000 : Int) ≤ 3000 from by omega) (by show (3000 : Int) < _; omega)

theorem SC_of {sz : Int} {B Y : zF} : ∀ (n : Nat) (op : Int), 0 ≤ op → op ≤ 10 → 10 - op < (n : Int) → SC sz B Y op := by
  intro n
  induction n with
  | zero => intro op h1 h2 h3; exfalso; omega
  | succ n ih =>
    intro op h1 h2 h3 d A K T Q hd hI q
    exact c_113r (fun h => ih (op + 1) (by omega) (by omega) (by omega)) (by omega) hI ⟨h1, h2⟩ q
theorem SC_0 {sz : Int} {B Y : zF} : SC sz B Y 0 := SC_of 11 0 (by omega) (by omega) (by omega)
set_option maxRecDepth 10000 in
set_option maxHeartbeats 400000 in
theorem c_110_19 {sz : Int} {d : Nat} {A B Y : zF} {K : Nat} {T : zT}  {Q : zF → zF → zF → Nat → zT → Prop} (hd : 252 ≤ d) (hI : XI 1 sz A K T)  (q : ∀ (A' : zF) (K' : Nat) (T' : zT), XI 1 sz A' K' T' → Q A' B Y K' T') : pzV d 110 [.inr (.inr (19 : Nat))] (A, B, Y, K, T) Q := by
  refine pzV_of 55 [] [] ?_
  show (0 < d ∧ pzV (d - 1) 101 [.inr (.inr (19 : Nat)), .inr (.inr (1007 : Nat))] (A, B, Y, K, T) (fun Av1 Bv1 Yv1 Kv1 Tv1 => (0 < d ∧ pzI (d - 1) 121 [.inr (.inr (19 : Nat)), .inl (0 : Int)] (Av1, Bv1, Yv1, Kv1, Tv1) (fun nv2 Av2 Bv2 Yv2 Kv2 Tv2 => ((-2147483648 ≤ nv2 ∧ nv2 < 2147483648) ∧ (nv2 = (0 : Int) → (0 < d ∧ pzV (d - 1) 101 [.inr (.inr (19 : Nat)), .inr (.inr (1037 : Nat))] (Av2, Bv2, Yv2, Kv2, Tv2) (fun Av3 Bv3 Yv3 Kv3 Tv3 => (0 < d ∧ pzV (d - 1) 101 [.inr (.inr (19 : Nat)), .inr (.inr (1036 : Nat))] (Av3, Bv3, Yv3, Kv3, Tv3) (fun Av4 Bv4 Yv4 Kv4 Tv4 => (0 < d ∧ pzI (d - 1) 82 [.inr (.inr (2 : Nat)), .inl (11 : Int), .inl (0 : Int)] (Av4, Bv4, Yv4, Kv4, Tv4) (fun nv5 Av5 Bv5 Yv5 Kv5 Tv5 => (((0 : Int) = 0 ∨ (0 : Int) = 1) ∧ ((-2147483648 ≤ (Av5 19 4) ∧ (Av5 19 4) < 2147483648) ∧ (-2147483648 ≤ (-1 : Int) ∧ (-1 : Int) < 2147483648) ∧ ((Av5 19 4) = (-1 : Int) → Q (zu Av5 19 3 (0 : Int)) Bv5 Yv5 Kv5 Tv5) ∧ ((Av5 19 4) ≠ (-1 : Int) → ((0 ≤ (Av5 19 4) ∧ (Av5 19 4) < (3001 : Int)) ∧ ((0 ≤ (Av5 19 4) ∧ (Av5 19 4) < (3001 : Int)) ∧ (0 < d ∧ pzV (d - 1) 64 [.inr (.inr (10 : Nat)), .inl (Av5 22 ((Av5 19 4)).toNat), .inl (Av5 23 ((Av5 19 4)).toNat), .inl (Av5 19 5)] ((zu Av5 19 3 (0 : Int)), Bv5, Yv5, Kv5, Tv5) (fun Av6 Bv6 Yv6 Kv6 Tv6 => Q Av6 Bv6 Yv6 Kv6 Tv6)))))))))))))) ∧ (nv2 ≠ (0 : Int) → ((-2147483648 ≤ (Av2 19 5) ∧ (Av2 19 5) < 2147483648) ∧ ((Av2 19 5) ≠ (0 : Int) → (0 < d ∧ pzV (d - 1) 101 [.inr (.inr (19 : Nat)), .inr (.inr (1037 : Nat))] (Av2, Bv2, Yv2, Kv2, Tv2) (fun Av7 Bv7 Yv7 Kv7 Tv7 => (0 < d ∧ pzV (d - 1) 101 [.inr (.inr (19 : Nat)), .inr (.inr (1036 : Nat))] (Av7, Bv7, Yv7, Kv7, Tv7) (fun Av8 Bv8 Yv8 Kv8 Tv8 => (0 < d ∧ pzI (d - 1) 82 [.inr (.inr (2 : Nat)), .inl (11 : Int), .inl (0 : Int)] (Av8, Bv8, Yv8, Kv8, Tv8) (fun nv9 Av9 Bv9 Yv9 Kv9 Tv9 => (((0 : Int) = 0 ∨ (0 : Int) = 1) ∧ ((-2147483648 ≤ (Av9 19 4) ∧ (Av9 19 4) < 2147483648) ∧ (-2147483648 ≤ (-1 : Int) ∧ (-1 : Int) < 2147483648) ∧ ((Av9 19 4) = (-1 : Int) → Q (zu Av9 19 3 (0 : Int)) Bv9 Yv9 Kv9 Tv9) ∧ ((Av9 19 4) ≠ (-1 : Int) → ((0 ≤ (Av9 19 4) ∧ (Av9 19 4) < (3001 : Int)) ∧ ((0 ≤ (Av9 19 4) ∧ (Av9 19 4) < (3001 : Int)) ∧ (0 < d ∧ pzV (d - 1) 64 [.inr (.inr (10 : Nat)), .inl (Av9 22 ((Av9 19 4)).toNat), .inl (Av9 23 ((Av9 19 4)).toNat), .inl (Av9 19 5)] ((zu Av9 19 3 (0 : Int)), Bv9, Yv9, Kv9, Tv9) (fun Av10 Bv10 Yv10 Kv10 Tv10 => Q Av10 Bv10 Yv10 Kv10 Tv10)))))))))))))) ∧ ((Av2 19 5) = (0 : Int) → (0 < d ∧ pzV (d - 1) 103 [.inr (.inr (19 : Nat)), .inl (8 : Int), .inl (A 19 10)] (Av2, Bv2, Yv2, Kv2, Tv2) (fun Av11 Bv11 Yv11 Kv11 Tv11 => (0 < d ∧ pzV (d - 1) 101 [.inr (.inr (19 : Nat)), .inr (.inr (1037 : Nat))] (Av11, Bv11, Yv11, Kv11, Tv11) (fun Av12 Bv12 Yv12 Kv12 Tv12 => (0 < d ∧ pzV (d - 1) 101 [.inr (.inr (19 : Nat)), .inr (.inr (1036 : Nat))] (Av12, Bv12, Yv12, Kv12, Tv12) (fun Av13 Bv13 Yv13 Kv13 Tv13 => (0 < d ∧ pzI (d - 1) 82 [.inr (.inr (2 : Nat)), .inl (11 : Int), .inl (0 : Int)] (Av13, Bv13, Yv13, Kv13, Tv13) (fun nv14 Av14 Bv14 Yv14 Kv14 Tv14 => (((0 : Int) = 0 ∨ (0 : Int) = 1) ∧ ((-2147483648 ≤ (Av14 19 4) ∧ (Av14 19 4) < 2147483648) ∧ (-2147483648 ≤ (-1 : Int) ∧ (-1 : Int) < 2147483648) ∧ ((Av14 19 4) = (-1 : Int) → Q (zu Av14 19 3 (0 : Int)) Bv14 Yv14 Kv14 Tv14) ∧ ((Av14 19 4) ≠ (-1 : Int) → ((0 ≤ (Av14 19 4) ∧ (Av14 19 4) < (3001 : Int)) ∧ ((0 ≤ (Av14 19 4) ∧ (Av14 19 4) < (3001 : Int)) ∧ (0 < d ∧ pzV (d - 1) 64 [.inr (.inr (10 : Nat)), .inl (Av14 22 ((Av14 19 4)).toNat), .inl (Av14 23 ((Av14 19 4)).toNat), .inl (Av14 19 5)] ((zu Av14 19 3 (0 : Int)), Bv14, Yv14, Kv14, Tv14) (fun Av15 Bv15 Yv15 Kv15 Tv15 => Q Av15 Bv15 Yv15 Kv15 Tv15)))))))))))))))))))))))
  have f1 := XI_r_19_10 hI
  refine ⟨by omega, c_101_19 (by omega) hI (show 1000 ≤ (1007 : Nat) ∧ (1007 : Nat) < 1039 from by omega) (fun Av1 Kv1 Tv1 xI1 => ?_)⟩
  refine ⟨by omega, EC_all (by omega) _ _ _ _ _ (by omega) xI1  (fun nv2 Av2 Kv2 Tv2 xI2 xp2_0 => ?_)⟩
  replace xp2_0 : nv2 = 0 ∨ nv2 = 1 := xp2_0
  refine ⟨by omega, fun z2 => ?_, fun z2 => ?_⟩
  · skip
    refine ⟨by omega, c_101_19 (by omega) xI2 (show 1000 ≤ (1037 : Nat) ∧ (1037 : Nat) < 1039 from by omega) (fun Av3 Kv3 Tv3 xI3 => ?_)⟩
    refine ⟨by omega, c_101_19 (by omega) xI3 (show 1000 ≤ (1036 : Nat) ∧ (1036 : Nat) < 1039 from by omega) (fun Av4 Kv4 Tv4 xI4 => ?_)⟩
    refine ⟨by omega, c_82_2 (by omega) xI4 (show -2147483648 ≤ (11 : Int) ∧ (11 : Int) ≤ 2147483647 from by omega) (show -2147483648 ≤ (0 : Int) ∧ (0 : Int) ≤ 2147483647 from by omega) (fun nv5 Av5 Kv5 Tv5 xI5 xp5_0 => ?_)⟩
    replace xp5_0 : -1 ≤ nv5 ∧ nv5 < 3000 := xp5_0
    have g7 := XI_r_19_4 xI5
    have g8 := XI_p_22 xI5 ((Av5 19 4)).toNat
    refine ⟨by omega, ?_⟩
    have hI3 := XI_w_19_3 (v := (0 : Int)) xI5 (by omega) (by omega)
    have f4 := XI_r_19_4 xI5
    refine ⟨by omega, by omega, fun z5 => ?_, fun z5 => ?_⟩
    · skip
      exact q _ _ _ hI3 
    · skip
      refine ⟨by omega, ?_⟩
      have f6 := XI_r_22 xI5 (((Av5 19 4)).toNat)
      refine ⟨by omega, ?_⟩
      have f7 := XI_r_23 xI5 (((Av5 19 4)).toNat)
      have f8 := XI_r_19_5 xI5
      refine ⟨by omega, c_64_10 (by omega) hI3 (show 0 ≤ (Av5 22 ((Av5 19 4)).toNat) ∧ (Av5 22 ((Av5 19 4)).toNat) ≤ 3000 from by omega) (show -3000 ≤ (Av5 23 ((Av5 19 4)).toNat) ∧ (Av5 23 ((Av5 19 4)).toNat) ≤ 3000 from by omega) (show (Av5 22 ((Av5 19 4)).toNat) + (Av5 23 ((Av5 19 4)).toNat) ≤ 3000 from by omega) (show (Av5 19 5) = 0 ∨ (Av5 19 5) = 1 from by omega) (fun Av6 Kv6 Tv6 xI6 => ?_)⟩
      exact q _ _ _ xI6 
  · skip
    have f9 := XI_r_19_5 xI2
    refine ⟨by omega, fun z10 => ?_, fun z10 => ?_⟩
    · skip
      refine ⟨by omega, c_101_19 (by omega) xI2 (show 1000 ≤ (1037 : Nat) ∧ (1037 : Nat) < 1039 from by omega) (fun Av7 Kv7 Tv7 xI7 => ?_)⟩
      refine ⟨by omega, c_101_19 (by omega) xI7 (show 1000 ≤ (1036 : Nat) ∧ (1036 : Nat) < 1039 from by omega) (fun Av8 Kv8 Tv8 xI8 => ?_)⟩
      refine ⟨by omega, c_82_2 (by omega) xI8 (show -2147483648 ≤ (11 : Int) ∧ (11 : Int) ≤ 2147483647 from by omega) (show -2147483648 ≤ (0 : Int) ∧ (0 : Int) ≤ 2147483647 from by omega) (fun nv9 Av9 Kv9 Tv9 xI9 xp9_0 => ?_)⟩
      replace xp9_0 : -1 ≤ nv9 ∧ nv9 < 3000 := xp9_0
      have g7 := XI_r_19_4 xI9
      have g8 := XI_p_22 xI9 ((Av9 19 4)).toNat
      refine ⟨by omega, ?_⟩
      have hI11 := XI_w_19_3 (v := (0 : Int)) xI9 (by omega) (by omega)
      have f12 := XI_r_19_4 xI9
      refine ⟨by omega, by omega, fun z13 => ?_, fun z13 => ?_⟩
      · skip
        exact q _ _ _ hI11 
      · skip
        refine ⟨by omega, ?_⟩
        have f14 := XI_r_22 xI9 (((Av9 19 4)).toNat)
        refine ⟨by omega, ?_⟩
        have f15 := XI_r_23 xI9 (((Av9 19 4)).toNat)
        have f16 := XI_r_19_5 xI9
        refine ⟨by omega, c_64_10 (by omega) hI11 (show 0 ≤ (Av9 22 ((Av9 19 4)).toNat) ∧ (Av9 22 ((Av9 19 4)).toNat) ≤ 3000 from by omega) (show -3000 ≤ (Av9 23 ((Av9 19 4)).toNat) ∧ (Av9 23 ((Av9 19 4)).toNat) ≤ 3000 from by omega) (show (Av9 22 ((Av9 19 4)).toNat) + (Av9 23 ((Av9 19 4)).toNat) ≤ 3000 from by omega) (show (Av9 19 5) = 0 ∨ (Av9 19 5) = 1 from by omega) (fun Av10 Kv10 Tv10 xI10 => ?_)⟩
        exact q _ _ _ xI10 
    · skip
      refine ⟨by omega, c_103_19 (by omega) xI2 (show 1 ≤ (8 : Int) ∧ (8 : Int) ≤ 9 from by omega) (show 0 ≤ (A 19 10) ∧ (A 19 10) ≤ 3000 from by omega) (fun Av11 Kv11 Tv11 xI11 => ?_)⟩
      refine ⟨by omega, c_101_19 (by omega) xI11 (show 1000 ≤ (1037 : Nat) ∧ (1037 : Nat) < 1039 from by omega) (fun Av12 Kv12 Tv12 xI12 => ?_)⟩
      refine ⟨by omega, c_101_19 (by omega) xI12 (show 1000 ≤ (1036 : Nat) ∧ (1036 : Nat) < 1039 from by omega) (fun Av13 Kv13 Tv13 xI13 => ?_)⟩
      refine ⟨by omega, c_82_2 (by omega) xI13 (show -2147483648 ≤ (11 : Int) ∧ (11 : Int) ≤ 2147483647 from by omega) (show -2147483648 ≤ (0 : Int) ∧ (0 : Int) ≤ 2147483647 from by omega) (fun nv14 Av14 Kv14 Tv14 xI14 xp14_0 => ?_)⟩
      replace xp14_0 : -1 ≤ nv14 ∧ nv14 < 3000 := xp14_0
      have g7 := XI_r_19_4 xI14
      have g8 := XI_p_22 xI14 ((Av14 19 4)).toNat
      refine ⟨by omega, ?_⟩
      have hI17 := XI_w_19_3 (v := (0 : Int)) xI14 (by omega) (by omega)
      have f18 := XI_r_19_4 xI14
      refine ⟨by omega, by omega, fun z19 => ?_, fun z19 => ?_⟩
      · skip
        exact q _ _ _ hI17 
      · skip
        refine ⟨by omega, ?_⟩
        have f20 := XI_r_22 xI14 (((Av14 19 4)).toNat)
        refine ⟨by omega, ?_⟩
        have f21 := XI_r_23 xI14 (((Av14 19 4)).toNat)
        have f22 := XI_r_19_5 xI14
        refine ⟨by omega, c_64_10 (by omega) hI17 (show 0 ≤ (Av14 22 ((Av14 19 4)).toNat) ∧ (Av14 22 ((Av14 19 4)).toNat) ≤ 3000 from by omega) (show -3000 ≤ (Av14 23 ((Av14 19 4)).toNat) ∧ (Av14 23 ((Av14 19 4)).toNat) ≤ 3000 from by omega) (show (Av14 22 ((Av14 19 4)).toNat) + (Av14 23 ((Av14 19 4)).toNat) ≤ 3000 from by omega) (show (Av14 19 5) = 0 ∨ (Av14 19 5) = 1 from by omega) (fun Av15 Kv15 Tv15 xI15 => ?_)⟩
        exact q _ _ _ xI15 

set_option maxRecDepth 10000 in
set_option maxHeartbeats 400000 in
theorem c_98_19 {sz : Int} {d : Nat} {A B Y : zF} {K : Nat} {T : zT}  {Q : Int → zF → zF → zF → Nat → zT → Prop} (hd : 420 ≤ d) (hI : XI 0 sz A K T)  (q : ∀ (r : Int) (A' : zF) (K' : Nat) (T' : zT), XI 0 sz A' K' T' → (0 ≤ r ∧ r ≤ 48100) → Q r A' B Y K' T') : pzI d 98 [.inr (.inr (19 : Nat))] (A, B, Y, K, T) Q := by
  have L45 : ∀ (n : Nat) (e : Int) (A2 : zF) (K2 : Nat) (T2 : zT), XI 1 sz A2 K2 T2 → (0 ≤ e ∧ e ≤ 3000) → (e) < (n : Int) → pq d 98 45 [some (.inr (.inr (19 : Nat))), some (.inl e)] [] (A2, B, Y, K2, T2) (qI Q) := by
    intro n
    induction n with
    | zero =>
      intro e A2 K2 T2 hI2 i0 hm
      exfalso
      omega
    | succ n ih =>
      intro e A2 K2 T2 hI2 i0 hm
      refine pq_of 28 [(45, [])] [] ?_
      show ((-2147483648 ≤ e ∧ e < 2147483648) ∧ (e ≤ (0 : Int) → (0 < d ∧ pzV (d - 1) 113 [.inr (.inr (19 : Nat)), .inl (0 : Int)] ((zu A2 2 13 (A2 2 12)), B, Y, K2, T2) (fun Av101 Bv101 Yv101 Kv101 Tv101 => (0 < d ∧ pzV (d - 1) 101 [.inr (.inr (19 : Nat)), .inr (.inr (1003 : Nat))] (Av101, Bv101, Yv101, Kv101, Tv101) (fun Av102 Bv102 Yv102 Kv102 Tv102 => ((-2147483648 ≤ (Av102 19 6) ∧ (Av102 19 6) < 2147483648) ∧ ((Av102 19 6) = (0 : Int) → (((1 : Int) = 0 ∨ (1 : Int) = 1) ∧ Q (Av102 19 7) (zu Av102 2 15 (1 : Int)) Bv102 Yv102 Kv102 Tv102)) ∧ ((Av102 19 6) ≠ (0 : Int) → (0 < d ∧ pzV (d - 1) 74 [.inr (.inr (2 : Nat))] (Av102, Bv102, Yv102, Kv102, Tv102) (fun Av103 Bv103 Yv103 Kv103 Tv103 => Q (Av103 19 6) Av103 Bv103 Yv103 Kv103 Tv103))))))))) ∧ ((0 : Int) < e → ((1000 ≤ K2 ∧ K2 < 1039) ∧ (0 < d ∧ pzI (d - 1) 85 [.inr (.inr K2)] (A2, B, Y, K2, T2) (fun nv104 Av104 Bv104 Yv104 Kv104 Tv104 => ((-2147483648 ≤ nv104 ∧ nv104 < 2147483648) ∧ (nv104 = (0 : Int) → (0 < d ∧ pzV (d - 1) 113 [.inr (.inr (19 : Nat)), .inl (0 : Int)] ((zu Av104 2 13 (Av104 2 12)), Bv104, Yv104, Kv104, Tv104) (fun Av105 Bv105 Yv105 Kv105 Tv105 => (0 < d ∧ pzV (d - 1) 101 [.inr (.inr (19 : Nat)), .inr (.inr (1003 : Nat))] (Av105, Bv105, Yv105, Kv105, Tv105) (fun Av106 Bv106 Yv106 Kv106 Tv106 => ((-2147483648 ≤ (Av106 19 6) ∧ (Av106 19 6) < 2147483648) ∧ ((Av106 19 6) = (0 : Int) → (((1 : Int) = 0 ∨ (1 : Int) = 1) ∧ Q (Av106 19 7) (zu Av106 2 15 (1 : Int)) Bv106 Yv106 Kv106 Tv106)) ∧ ((Av106 19 6) ≠ (0 : Int) → (0 < d ∧ pzV (d - 1) 74 [.inr (.inr (2 : Nat))] (Av106, Bv106, Yv106, Kv106, Tv106) (fun Av107 Bv107 Yv107 Kv107 Tv107 => Q (Av107 19 6) Av107 Bv107 Yv107 Kv107 Tv107))))))))) ∧ (nv104 ≠ (0 : Int) → ((1000 ≤ Kv104 ∧ Kv104 < 1064) ∧ (1000 ≤ (1006 : Nat) ∧ (1006 : Nat) < 1064) ∧ (Kv104 ≠ (1006 : Nat) → (0 < d ∧ pzV (d - 1) 107 [.inr (.inr (19 : Nat))] (Av104, Bv104, Yv104, Kv104, Tv104) (fun Av108 Bv108 Yv108 Kv108 Tv108 => pq d 98 45 [some (.inr (.inr (19 : Nat))), some (.inl (e + (-1 : Int)))] [] (Av108, Bv108, Yv108, Kv108, Tv108) (qI Q)))) ∧ (Kv104 = (1006 : Nat) → (0 < d ∧ pzV (d - 1) 109 [.inr (.inr (19 : Nat))] (Av104, Bv104, Yv104, Kv104, Tv104) (fun Av109 Bv109 Yv109 Kv109 Tv109 => (0 < d ∧ pzV (d - 1) 113 [.inr (.inr (19 : Nat)), .inl (0 : Int)] (Av109, Bv109, Yv109, Kv109, Tv109) (fun Av110 Bv110 Yv110 Kv110 Tv110 => (0 < d ∧ pzV (d - 1) 110 [.inr (.inr (19 : Nat))] (Av110, Bv110, Yv110, Kv110, Tv110) (fun Av111 Bv111 Yv111 Kv111 Tv111 => pq d 98 45 [some (.inr (.inr (19 : Nat))), some (.inl (e + (-1 : Int)))] [] (Av111, Bv111, Yv111, Kv111, Tv111) (qI Q))))))))))))))))
      refine ⟨by omega, fun z1 => ?_, fun z1 => ?_⟩
      · skip
        have f2 := XI_r_2_12 hI2
        have hI3 := XI_w_2_13 (v := (A2 2 12)) hI2 (by omega) (by omega)
        refine ⟨by omega, SC_0 _ _ _ _ _ (by omega) hI3  (fun Av101 Kv101 Tv101 xI101 => ?_)⟩
        refine ⟨by omega, c_101_19 (by omega) xI101 (show 1000 ≤ (1003 : Nat) ∧ (1003 : Nat) < 1039 from by omega) (fun Av102 Kv102 Tv102 xI102 => ?_)⟩
        have f4 := XI_r_19_6 xI102
        refine ⟨by omega, fun z5 => ?_, fun z5 => ?_⟩
        · skip
          refine ⟨by omega, ?_⟩
          have hI6 := XI_w_2_15 (v := (1 : Int)) xI102 (by omega) (by omega)
          have f7 := XI_r_19_7 xI102
          exact q _ _ _ _ (by first | exact XI_10 hI6 (Or.inr (by assumption)) | exact XI_10 hI6 (Or.inl (by assumption))) (show 0 ≤ (Av102 19 7) ∧ (Av102 19 7) ≤ 48100 from by omega)
        · skip
          refine ⟨by omega, c_74_2 (by omega) xI102  (fun Av103 Kv103 Tv103 xI103 xp103_0 => ?_)⟩
          replace xp103_0 : (Av103 4 4) = 0 := xp103_0
          have f8 := XI_r_19_6 xI103
          exact q _ _ _ _ (by first | exact XI_10 xI103 (Or.inr (by assumption)) | exact XI_10 xI103 (Or.inl (by assumption))) (show 0 ≤ (Av103 19 6) ∧ (Av103 19 6) ≤ 48100 from by omega)
      · skip
        have f9 := XI_rK hI2
        refine ⟨by omega, by omega, c_85 (by omega) (show 1000 ≤ K2 ∧ K2 < 1039 from by omega) (fun nv104 xp104_0 => ?_)⟩
        replace xp104_0 : nv104 = 0 ∨ nv104 = 1 := xp104_0
        refine ⟨by omega, fun z10 => ?_, fun z10 => ?_⟩
        · skip
          have f11 := XI_r_2_12 hI2
          have hI12 := XI_w_2_13 (v := (A2 2 12)) hI2 (by omega) (by omega)
          refine ⟨by omega, SC_0 _ _ _ _ _ (by omega) hI12  (fun Av105 Kv105 Tv105 xI105 => ?_)⟩
          refine ⟨by omega, c_101_19 (by omega) xI105 (show 1000 ≤ (1003 : Nat) ∧ (1003 : Nat) < 1039 from by omega) (fun Av106 Kv106 Tv106 xI106 => ?_)⟩
          have f13 := XI_r_19_6 xI106
          refine ⟨by omega, fun z14 => ?_, fun z14 => ?_⟩
          · skip
            refine ⟨by omega, ?_⟩
            have hI15 := XI_w_2_15 (v := (1 : Int)) xI106 (by omega) (by omega)
            have f16 := XI_r_19_7 xI106
            exact q _ _ _ _ (by first | exact XI_10 hI15 (Or.inr (by assumption)) | exact XI_10 hI15 (Or.inl (by assumption))) (show 0 ≤ (Av106 19 7) ∧ (Av106 19 7) ≤ 48100 from by omega)
          · skip
            refine ⟨by omega, c_74_2 (by omega) xI106  (fun Av107 Kv107 Tv107 xI107 xp107_0 => ?_)⟩
            replace xp107_0 : (Av107 4 4) = 0 := xp107_0
            have f17 := XI_r_19_6 xI107
            exact q _ _ _ _ (by first | exact XI_10 xI107 (Or.inr (by assumption)) | exact XI_10 xI107 (Or.inl (by assumption))) (show 0 ≤ (Av107 19 6) ∧ (Av107 19 6) ≤ 48100 from by omega)
        · skip
          refine ⟨by omega, by omega, fun z18 => ?_, fun z18 => ?_⟩
          · skip
            refine ⟨by omega, c_107_19 (by omega) hI2  (fun Av108 Kv108 Tv108 xI108 => ?_)⟩
            exact ih ((e + (-1 : Int))) _ _ _ xI108 (show 0 ≤ (e + (-1 : Int)) ∧ (e + (-1 : Int)) ≤ 3000 from by omega) (by show (e + (-1 : Int)) < _; omega)
          · skip
            refine ⟨by omega, c_109_19 (by omega) hI2  (fun Av109 Kv109 Tv109 xI109 => ?_)⟩
            refine ⟨by omega, SC_0 _ _ _ _ _ (by omega) xI109  (fun Av110 Kv110 Tv110 xI110 => ?_)⟩
            refine ⟨by omega, c_110_19 (by omega) xI110  (fun Av111 Kv111 Tv111 xI111 => ?_)⟩
            exact ih ((e + (-1 : Int))) _ _ _ xI111 (show 0 ≤ (e + (-1 : Int)) ∧ (e + (-1 : Int)) ≤ 3000 from by omega) (by show (e + (-1 : Int)) < _; omega)
  refine pzI_of 23 [(45, [])] [] ?_
  show (0 < d ∧ pzV (d - 1) 74 [.inr (.inr (2 : Nat))] (A, B, Y, K, T) (fun Av1 Bv1 Yv1 Kv1 Tv1 => (((0 : Int) = 0 ∨ (0 : Int) = 1) ∧ (0 < d ∧ pzV (d - 1) 88 [.inr (.inr (20 : Nat)), .inl (Av1 2 1)] ((zu (zu (zu Av1 19 3 (0 : Int)) 19 6 (0 : Int)) 19 7 (0 : Int)), Bv1, Yv1, Kv1, Tv1) (fun Av2 Bv2 Yv2 Kv2 Tv2 => (0 < d ∧ pzV (d - 1) 99 [.inr (.inr (19 : Nat)), .inl (0 : Int)] (Av2, Bv2, Yv2, Kv2, Tv2) (fun Av3 Bv3 Yv3 Kv3 Tv3 => pq d 98 45 [some (.inr (.inr (19 : Nat))), some (.inl (3000 : Int))] [] (Av3, Bv3, Yv3, Kv3, Tv3) (qI Q))))))))
  refine ⟨by omega, c_74_2 (by omega) hI  (fun Av1 Kv1 Tv1 xI1 xp1_0 => ?_)⟩
  replace xp1_0 : (Av1 4 4) = 0 := xp1_0
  refine ⟨by omega, ?_⟩
  have hI1 := XI_w_19_3 (v := (0 : Int)) xI1 (by omega) (by omega)
  have hI2 := XI_fault0 hI1 (show (Av1 4 4) = 0 from by omega)
  have hI3 := XI_w_19_7 (v := (0 : Int)) hI2 (by omega) (by omega)
  have f4 := XI_r_2_1 xI1
  refine ⟨by omega, c_88_20 (by omega) hI3 (show 0 ≤ (Av1 2 1) ∧ (Av1 2 1) ≤ 3000 from by omega) (fun Av2 Kv2 Tv2 xI2 => ?_)⟩
  refine ⟨by omega, c_99_19 (by omega) xI2 (show -2147483648 ≤ (0 : Int) ∧ (0 : Int) ≤ 2147483647 from by omega) (fun Av3 Kv3 Tv3 xI3 xp3_0 => ?_)⟩
  replace xp3_0 : (Av3 19 6) = (Av2 19 6) := xp3_0
  exact L45 (((3000 : Int)) + 1).toNat ((3000 : Int)) _ _ _ xI3 (show 0 ≤ (3000 : Int) ∧ (3000 : Int) ≤ 3000 from by omega) (by show (3000 : Int) < _; omega)

set_option maxRecDepth 10000 in
set_option maxHeartbeats 400000 in
theorem c_153_0 {sz : Int} {d : Nat} {A B Y : zF} {K : Nat} {T : zT}  {Q : Int → zF → zF → zF → Nat → zT → Prop} (hd : 430 ≤ d) (hI : XI 0 sz A K T)  (q : ∀ (r : Int) (A' : zF) (K' : Nat) (T' : zT), XI 0 0 A' K' T' → Q r A' B Y K' T') : pzI d 153 [.inr (.inr (0 : Nat))] (A, B, Y, K, T) Q := by
  refine pzI_of 28 [] [] ?_
  show (0 < d ∧ pzV (d - 1) 73 [.inr (.inr (2 : Nat)), .inr (.inr (1 : Nat)), .inl (A 0 1)] (A, B, Y, K, T) (fun Av1 Bv1 Yv1 Kv1 Tv1 => (((0 : Int) = 0 ∨ (0 : Int) = 1) ∧ (0 < d ∧ pzV (d - 1) 169 [.inr (.inr (29 : Nat)), .inl (0 : Int)] ((zu (zu Av1 0 1 (0 : Int)) 0 9 (0 : Int)), Bv1, Yv1, Kv1, Tv1) (fun Av2 Bv2 Yv2 Kv2 Tv2 => (0 < d ∧ pzI (d - 1) 98 [.inr (.inr (19 : Nat))] (Av2, Bv2, Yv2, Kv2, Tv2) (fun nv3 Av3 Bv3 Yv3 Kv3 Tv3 => ((-2147483648 ≤ (16 : Int) ∧ (16 : Int) < 2147483648 ∧ (16 : Int) ≠ 0) ∧ (∀ cv4 : Int, -2147483648 ≤ cv4 → cv4 < 2147483648 → Q nv3 (zu Av3 0 10 cv4) Bv3 Yv3 Kv3 Tv3)))))))))
  have f1 := XI_r_0_1 hI
  refine ⟨by omega, c_73_2_1 (by omega) hI (show -2147483648 ≤ (A 0 1) ∧ (A 0 1) ≤ 2147483647 from by omega) (show 0 ≤ (A 0 1) from by omega) (fun Av1 Kv1 Tv1 xI1 => ?_)⟩
  have hI2 := XI_len (v := (0 : Int)) xI1 (by omega) (by omega)
  refine ⟨by omega, ?_⟩
  have hI3 := XI_w_0_9 (v := (0 : Int)) hI2 (by omega) (by omega)
  refine ⟨by omega, c_169_29 (by omega) hI3 (show -2147483648 ≤ (0 : Int) ∧ (0 : Int) ≤ 2147483647 from by omega) (fun Av2 Kv2 Tv2 xI2 => ?_)⟩
  refine ⟨by omega, c_98_19 (by omega) xI2  (fun nv3 Av3 Kv3 Tv3 xI3 xp3_0 => ?_)⟩
  replace xp3_0 : 0 ≤ nv3 ∧ nv3 ≤ 48100 := xp3_0
  refine ⟨by omega, fun cv4 w4a w4b => ?_⟩
  have hI5 := XI_w_0_10 (v := cv4) xI3 (by omega) (by omega)
  exact q _ _ _ _ hI5 

set_option maxRecDepth 10000 in
set_option maxHeartbeats 400000 in
theorem c_160_0 {m : Nat} {sz : Int} {d : Nat} {A B Y : zF} {K : Nat} {T : zT} {x : Int} {Q : Int → zF → zF → zF → Nat → zT → Prop} (hd : 5 ≤ d) (hI : XI m sz A K T) (p1 : -2147483648 ≤ x ∧ x ≤ 2147483647) (q : ∀ (r : Int), Q r A B Y K T) : pzI d 160 [.inr (.inr (0 : Nat)), .inl x] (A, B, Y, K, T) Q := by
  refine pzI_of 10 [] [] ?_
  show ((-2147483648 ≤ x ∧ x < 2147483648) ∧ ((x < (0 : Int) ∨ (10 : Int) < x) → Q (-1 : Int) A B Y K T) ∧ (x = (0 : Int) → Q (A 4 4) A B Y K T) ∧ (x = (1 : Int) → Q (A 10 4) A B Y K T) ∧ (x = (2 : Int) → (0 < d ∧ pzI (d - 1) 68 [.inr (.inr (4 : Nat))] (A, B, Y, K, T) (fun nv1 Av1 Bv1 Yv1 Kv1 Tv1 => Q nv1 Av1 Bv1 Yv1 Kv1 Tv1))) ∧ (x = (3 : Int) → Q (A 2 5) A B Y K T) ∧ (x = (4 : Int) → Q (A 2 14) A B Y K T) ∧ (x = (5 : Int) → Q (A 0 10) A B Y K T) ∧ (x = (6 : Int) → ((-2147483648 ≤ (A 2 15) ∧ (A 2 15) < 2147483648) ∧ ((A 2 15) = (0 : Int) → Q (0 : Int) A B Y K T) ∧ ((A 2 15) ≠ (0 : Int) → Q (1 : Int) A B Y K T))) ∧ (x = (7 : Int) → ((-2147483648 ≤ (A 0 9) ∧ (A 0 9) < 2147483648) ∧ ((A 0 9) = (0 : Int) → Q (-1 : Int) A B Y K T) ∧ ((A 0 9) ≠ (0 : Int) → Q (A 31 3) A B Y K T))) ∧ (x = (8 : Int) → ((-2147483648 ≤ (A 0 9) ∧ (A 0 9) < 2147483648) ∧ ((A 0 9) = (0 : Int) → Q (-1 : Int) A B Y K T) ∧ ((A 0 9) ≠ (0 : Int) → Q (A 31 4) A B Y K T))) ∧ (x = (9 : Int) → ((-2147483648 ≤ (A 0 9) ∧ (A 0 9) < 2147483648) ∧ ((A 0 9) = (0 : Int) → Q (-1 : Int) A B Y K T) ∧ ((A 0 9) ≠ (0 : Int) → Q (A 31 5) A B Y K T))) ∧ (x = (10 : Int) → Q (A 0 1) A B Y K T) ∧ True)
  refine ⟨by omega, fun z1 => ?_, fun z1 => ?_, fun z1 => ?_, fun z1 => ?_, fun z1 => ?_, fun z1 => ?_, fun z1 => ?_, fun z1 => ?_, fun z1 => ?_, fun z1 => ?_, fun z1 => ?_, fun z1 => ?_, trivial⟩
  · skip
    exact q _ 
  · skip
    have f2 := XI_r_4_4 hI
    exact q _ 
  · skip
    have f3 := XI_r_10_4 hI
    exact q _ 
  · skip
    refine ⟨by omega, c_68_4 (by omega) hI  (fun nv1 xp1_0 => ?_)⟩
    replace xp1_0 : 0 ≤ nv1 ∧ nv1 ≤ 41 := xp1_0
    exact q _ 
  · skip
    exact q _ 
  · skip
    exact q _ 
  · skip
    have f4 := XI_r_0_10 hI
    exact q _ 
  · skip
    have f5 := XI_r_2_15 hI
    refine ⟨by omega, fun z6 => ?_, fun z6 => ?_⟩
    · skip
      exact q _ 
    · skip
      exact q _ 
  · skip
    have f7 := XI_r_0_9 hI
    refine ⟨by omega, fun z8 => ?_, fun z8 => ?_⟩
    · skip
      exact q _ 
    · skip
      have f9 := XI_r_31_3 hI
      exact q _ 
  · skip
    have f10 := XI_r_0_9 hI
    refine ⟨by omega, fun z11 => ?_, fun z11 => ?_⟩
    · skip
      exact q _ 
    · skip
      have f12 := XI_r_31_4 hI
      exact q _ 
  · skip
    have f13 := XI_r_0_9 hI
    refine ⟨by omega, fun z14 => ?_, fun z14 => ?_⟩
    · skip
      exact q _ 
    · skip
      have f15 := XI_r_31_5 hI
      exact q _ 
  · skip
    have f16 := XI_r_0_1 hI
    exact q _ 

