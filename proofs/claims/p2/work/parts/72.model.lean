/-! The model's calls: what holds between them -/
def mi (B : zF) : Prop := (∀ j, 0 ≤ (B 40) j ∧ (B 40) j < 65536) ∧ (∀ j, 0 ≤ (B 41) j ∧ (B 41) j < 65536) ∧ (∀ j, ir ((B 61) j) ∧ ir ((B 66) j) ∧ ir ((B 67) j) ∧ ir ((B 68) j)) ∧ (∀ j, ir ((B 62) j) ∧ ir ((B 63) j) ∧ ir ((B 64) j))
def mb (B : zF) : Prop := (∀ j, (B 47) j = 0 ∨ (B 47) j = 1) ∧ (∀ j, (B 48) j = 0 ∨ (B 48) j = 1) ∧ (∀ j, (B 49) j = 0 ∨ (B 49) j = 1) ∧ (∀ j, (B 57) j = 0 ∨ (B 57) j = 1) ∧ (∀ k : Nat, k < 6 → 0 ≤ (B 52) k ∧ 0 ≤ (B 53) k ∧ (B 52) k + (B 53) k ≤ 3000) ∧ ((B 39 42) = 0 ∨ (B 39 42) = 1)
/-- a program is there -/
def MC (B : zF) (sz : Int) : Prop := mi B ∧ mb B ∧ ((B 39 3) = sz ∧ 0 ≤ sz ∧ sz ≤ 3000) ∧ (B 39 43) = 1 ∧ mD B ∧ mG B ∧ (B 39 38) ≤ 12000 ∧ ∃ E ht rg bk, FI (B 58) (B 59) (B 39 38) (B 39 17) (B 39 13) (B 54) (B 55) (B 56) E ht rg bk
def MR (B : zF) : Prop := (0 ≤ (B 39 50) ∧ (B 39 50) ≤ 4000) ∧ ir (B 39 51) ∧ ir (B 39 52) ∧ (0 ≤ (B 39 53) ∧ (B 39 53) ≤ 20000)
/-- what holds between two calls; sz characters wait -/
def MI (B Y : zF) (sz : Int) : Prop := mY Y ∧ ((mi B ∧ mb B ∧ ((B 39 3) = sz ∧ 0 ≤ sz ∧ sz ≤ 3000) ∧ (B 39 43) = 0 ∧ (B 39 13) = 0 ∧ (B 39 17) = 0 ∧ (B 39 44) = 0) ∨ (MC B sz ∧ ((B 39 44) = 0 ∨ ((B 39 44) = 1 ∧ MR B))))
section MDL
variable {d k : Nat} {A B B' Y : zF} {K : Nat} {T : zT} {sz fu v x y z : Int}
theorem mi_61 (h : mi B) (hv : ir v) : mi (zu B 61 k v) := by
  obtain ⟨h1, h2, h3, h4⟩ := h
  refine ⟨h1, h2, fun j => ⟨?_, (h3 j).2.1, (h3 j).2.2.1, (h3 j).2.2.2⟩, h4⟩
  rw [zu_ap]
  split
  · exact hv
  · exact (h3 j).1
theorem mi_66 (h : mi B) (hv : ir v) : mi (zu B 66 k v) := by
  obtain ⟨h1, h2, h3, h4⟩ := h
  refine ⟨h1, h2, fun j => ⟨(h3 j).1, ?_, (h3 j).2.2.1, (h3 j).2.2.2⟩, h4⟩
  rw [zu_ap]
  split
  · exact hv
  · exact (h3 j).2.1
theorem mi_67 (h : mi B) (hv : ir v) : mi (zu B 67 k v) := by
  obtain ⟨h1, h2, h3, h4⟩ := h
  refine ⟨h1, h2, fun j => ⟨(h3 j).1, (h3 j).2.1, ?_, (h3 j).2.2.2⟩, h4⟩
  rw [zu_ap]
  split
  · exact hv
  · exact (h3 j).2.2.1
theorem mi_68 (h : mi B) (hv : ir v) : mi (zu B 68 k v) := by
  obtain ⟨h1, h2, h3, h4⟩ := h
  refine ⟨h1, h2, fun j => ⟨(h3 j).1, (h3 j).2.1, (h3 j).2.2.1, ?_⟩, h4⟩
  rw [zu_ap]
  split
  · exact hv
  · exact (h3 j).2.2.2
theorem mi_62 (h : mi B) (hv : ir v) : mi (zu B 62 k v) := by
  obtain ⟨h1, h2, h3, h4⟩ := h
  refine ⟨h1, h2, h3, fun j => ⟨?_, (h4 j).2.1, (h4 j).2.2⟩⟩
  rw [zu_ap]
  split
  · exact hv
  · exact (h4 j).1
theorem mi_63 (h : mi B) (hv : ir v) : mi (zu B 63 k v) := by
  obtain ⟨h1, h2, h3, h4⟩ := h
  refine ⟨h1, h2, h3, fun j => ⟨(h4 j).1, ?_, (h4 j).2.2⟩⟩
  rw [zu_ap]
  split
  · exact hv
  · exact (h4 j).2.1
theorem mi_41 (h : mi B) (hv : 0 ≤ v ∧ v < 65536) : mi (zu B 41 k v) := by
  obtain ⟨h1, h2, h3, h4⟩ := h
  refine ⟨h1, fun j => ?_, h3, h4⟩
  rw [zu_ap]
  split
  · exact hv
  · exact h2 j
theorem MI_61 (h : MI B Y sz) (hv : ir v) : MI (zu B 61 k v) Y sz := by
  obtain ⟨h0, h1 | h1⟩ := h
  · exact ⟨h0, Or.inl ⟨mi_61 h1.1 hv, h1.2⟩⟩
  · exact ⟨h0, Or.inr ⟨⟨mi_61 h1.1.1 hv, h1.1.2⟩, h1.2⟩⟩
theorem MC_GS (h : MC B sz) (g : GS B B' fu) : MC B' sz := by
  obtain ⟨⟨g1, g2⟩, g3, g4, g5, g6⟩ := g
  have e : ∀ i, i ≠ 39 → i ≠ 62 → i ≠ 63 → i ≠ 64 → i ≠ 65 → B' i = B i := g1
  have e40 : B' 40 = B 40 := g1 40 (by omega) (by omega) (by omega) (by omega) (by omega)
  have e41 : B' 41 = B 41 := g1 41 (by omega) (by omega) (by omega) (by omega) (by omega)
  have e42 : B' 42 = B 42 := g1 42 (by omega) (by omega) (by omega) (by omega) (by omega)
  have e43 : B' 43 = B 43 := g1 43 (by omega) (by omega) (by omega) (by omega) (by omega)
  have e44 : B' 44 = B 44 := g1 44 (by omega) (by omega) (by omega) (by omega) (by omega)
  have e46 : B' 46 = B 46 := g1 46 (by omega) (by omega) (by omega) (by omega) (by omega)
  have e47 : B' 47 = B 47 := g1 47 (by omega) (by omega) (by omega) (by omega) (by omega)
  have e48 : B' 48 = B 48 := g1 48 (by omega) (by omega) (by omega) (by omega) (by omega)
  have e49 : B' 49 = B 49 := g1 49 (by omega) (by omega) (by omega) (by omega) (by omega)
  have e52 : B' 52 = B 52 := g1 52 (by omega) (by omega) (by omega) (by omega) (by omega)
  have e53 : B' 53 = B 53 := g1 53 (by omega) (by omega) (by omega) (by omega) (by omega)
  have e54 : B' 54 = B 54 := g1 54 (by omega) (by omega) (by omega) (by omega) (by omega)
  have e55 : B' 55 = B 55 := g1 55 (by omega) (by omega) (by omega) (by omega) (by omega)
  have e56 : B' 56 = B 56 := g1 56 (by omega) (by omega) (by omega) (by omega) (by omega)
  have e57 : B' 57 = B 57 := g1 57 (by omega) (by omega) (by omega) (by omega) (by omega)
  have e58 : B' 58 = B 58 := g1 58 (by omega) (by omega) (by omega) (by omega) (by omega)
  have e59 : B' 59 = B 59 := g1 59 (by omega) (by omega) (by omega) (by omega) (by omega)
  have e61 : B' 61 = B 61 := g1 61 (by omega) (by omega) (by omega) (by omega) (by omega)
  have e66 : B' 66 = B 66 := g1 66 (by omega) (by omega) (by omega) (by omega) (by omega)
  have e67 : B' 67 = B 67 := g1 67 (by omega) (by omega) (by omega) (by omega) (by omega)
  have e68 : B' 68 = B 68 := g1 68 (by omega) (by omega) (by omega) (by omega) (by omega)
  have f3 : B' 39 3 = B 39 3 := g2 3 (by omega) (by omega) (by omega) (by omega)
  have f13 : B' 39 13 = B 39 13 := g2 13 (by omega) (by omega) (by omega) (by omega)
  have f15 : B' 39 15 = B 39 15 := g2 15 (by omega) (by omega) (by omega) (by omega)
  have f17 : B' 39 17 = B 39 17 := g2 17 (by omega) (by omega) (by omega) (by omega)
  have f38 : B' 39 38 = B 39 38 := g2 38 (by omega) (by omega) (by omega) (by omega)
  have f42 : B' 39 42 = B 39 42 := g2 42 (by omega) (by omega) (by omega) (by omega)
  have f43 : B' 39 43 = B 39 43 := g2 43 (by omega) (by omega) (by omega) (by omega)
  obtain ⟨⟨m1, m2, m3, m4⟩, h2⟩ := h
  refine ⟨⟨by rw [e40]; exact m1, by rw [e41]; exact m2, by rw [e61, e66, e67, e68]; exact m3, g3⟩, ?_⟩
  unfold mb mD mG
  rw [e42, e43, e44, e46, e47, e48, e49, e52, e53, e54, e55, e56, e57, e58, e59, f3, f13, f15, f17, f38, f42, f43]
  exact h2
theorem MC_r (h : MC B sz) : (B 39 43) = 1 ∧ (0 ≤ (B 39 13) ∧ (B 39 13) ≤ 40) ∧ (0 ≤ (B 39 17) ∧ (B 39 17) ≤ 6) ∧ (0 ≤ (B 39 15) ∧ (B 39 15) ≤ 2560) := by
  obtain ⟨-, -, -, h1, h2, h3, -⟩ := h
  have := h2.1
  have := h2.2.1
  have := h3.1
  omega
theorem MI_r (h : MI B Y sz) : ((B 39 43) = 0 ∨ (B 39 43) = 1) ∧ ((B 39 44) = 0 ∨ (B 39 44) = 1) ∧ (0 ≤ (B 39 13) ∧ (B 39 13) ≤ 40) ∧ (0 ≤ (B 39 17) ∧ (B 39 17) ≤ 6) := by
  obtain ⟨-, h | ⟨h1, h2⟩⟩ := h
  · obtain ⟨-, -, -, h4, h5, h6, h7⟩ := h
    omega
  · have := MC_r h1
    refine ⟨by omega, ?_, by omega, by omega⟩
    rcases h2 with h2 | h2
    · exact Or.inl h2
    · exact Or.inr h2.1
theorem MI_1 (h : MI B Y sz) (e : (B 39 43) ≠ 0) : MC B sz ∧ mY Y := by
  obtain ⟨h0, h | ⟨h1, h2⟩⟩ := h
  · exact absurd h.2.2.2.1 e
  · exact ⟨h1, h0⟩
theorem MI_2 (h : MI B Y sz) (e : (B 39 44) ≠ 0) : MC B sz ∧ mY Y ∧ (B 39 44) = 1 ∧ MR B := by
  obtain ⟨h0, h | ⟨h1, h2⟩⟩ := h
  · exact absurd h.2.2.2.2.2.2 e
  · rcases h2 with h2 | h2
    · exact absurd h2 e
    · exact ⟨h1, h0, h2.1, h2.2⟩
theorem MI_mi (h : MI B Y sz) : mi B ∧ mb B ∧ mY Y ∧ ((B 39 3) = sz ∧ 0 ≤ sz ∧ sz ≤ 3000) := by
  obtain ⟨h0, h | ⟨h1, h2⟩⟩ := h
  · exact ⟨h.1, h.2.1, h0, h.2.2.1⟩
  · exact ⟨h1.1, h1.2.1, h0, h1.2.2.1⟩
def cP (B : zF) (x y : Int) : Prop := (B 39 43) ≠ 0 ∧ 0 ≤ x ∧ x < (B 39 13) ∧ 0 ≤ y ∧ (y < (B 44) x.toNat ∨ y < 1)
set_option maxRecDepth 100000 in
set_option maxHeartbeats 4000000 in
theorem m_cellOf {Q : Int → zF → zF → zF → Nat → zT → Prop} (h : MI B Y sz) (hx : ir x) (hy : ir y) (q0 : ¬ cP B x y → Q (-1) A B Y K T) (q1 : ∀ r, cP B x y → 0 ≤ r → r < 2560 → Q r A B Y K T) : pzI d 48 [.inr (.inr 39), .inl x, .inl y] (A, B, Y, K, T) Q := by
  have hr := MI_r h
  have j0 : ¬ cP B x y → pq d 48 51 [some (.inr (.inr 39)), some (.inl x), some (.inl y), none] [.inl (0 : Int)] (A, B, Y, K, T) (qI Q) := by
    intro n
    refine pq_of 5 [(56, [])] [] ?_
    show ((-2147483648 ≤ (0 : Int) ∧ (0 : Int) < 2147483648) ∧ ((0 : Int) = (0 : Int) → Q (-1 : Int) A B Y K T) ∧ ((0 : Int) ≠ (0 : Int) → pq d 48 56 [some (.inr (.inr (39 : Nat))), some (.inl x), some (.inl y), some (.inl (0 : Int))] [] (A, B, Y, K, T) (qI Q)))
    exact ⟨by omega, fun _ => q0 n, fun z => absurd rfl z⟩
  have j1 : cP B x y → pq d 48 51 [some (.inr (.inr 39)), some (.inl x), some (.inl y), none] [.inl (1 : Int)] (A, B, Y, K, T) (qI Q) := by
    intro n
    obtain ⟨c1, c2, c3, c4, c5⟩ := id n
    obtain ⟨⟨-, -, -, -, ⟨d1, d2, d3, d4⟩, -⟩, -⟩ := MI_1 h c1
    obtain ⟨-, d5, d6, d7, d8⟩ := d3 x.toNat (by omega)
    refine pq_of 11 [(67, [])] [] ?_
    show ((-2147483648 ≤ (1 : Int) ∧ (1 : Int) < 2147483648) ∧ ((1 : Int) = (0 : Int) → pq d 48 67 [some (.inr (.inr (39 : Nat))), some (.inl x), some (.inl y), some (.inl (1 : Int))] [] (A, B, Y, K, T) (qI Q)) ∧ ((1 : Int) ≠ (0 : Int) → ((0 ≤ x ∧ x < (40 : Int)) ∧ Q ((B 46 (x).toNat) + y) A B Y K T)))
    exact ⟨by omega, fun z => absurd z (by omega), fun _ => ⟨by omega, q1 _ n (by omega) (by omega)⟩⟩
  refine pzI_of 25 [(51, [])] [] ?_
  show ((-2147483648 ≤ (B 39 43) ∧ (B 39 43) < 2147483648) ∧ ((B 39 43) = (0 : Int) → pq d 48 51 [some (.inr (.inr (39 : Nat))), some (.inl x), some (.inl y), none] [.inl (0 : Int)] (A, B, Y, K, T) (qI Q)) ∧ ((B 39 43) ≠ (0 : Int) → ((-2147483648 ≤ x ∧ x < 2147483648) ∧ (x < (0 : Int) → pq d 48 51 [some (.inr (.inr (39 : Nat))), some (.inl x), some (.inl y), none] [.inl (0 : Int)] (A, B, Y, K, T) (qI Q)) ∧ ((0 : Int) ≤ x → ((-2147483648 ≤ x ∧ x < 2147483648) ∧ (-2147483648 ≤ (B 39 13) ∧ (B 39 13) < 2147483648) ∧ ((B 39 13) ≤ x → pq d 48 51 [some (.inr (.inr (39 : Nat))), some (.inl x), some (.inl y), none] [.inl (0 : Int)] (A, B, Y, K, T) (qI Q)) ∧ (x < (B 39 13) → ((-2147483648 ≤ y ∧ y < 2147483648) ∧ (y < (0 : Int) → pq d 48 51 [some (.inr (.inr (39 : Nat))), some (.inl x), some (.inl y), none] [.inl (0 : Int)] (A, B, Y, K, T) (qI Q)) ∧ ((0 : Int) ≤ y → ((0 ≤ x ∧ x < (40 : Int)) ∧ ((-2147483648 ≤ (B 44 (x).toNat) ∧ (B 44 (x).toNat) < 2147483648) ∧ ((B 44 (x).toNat) ≤ (0 : Int) → ((-2147483648 ≤ y ∧ y < 2147483648) ∧ (-2147483648 ≤ (1 : Int) ∧ (1 : Int) < 2147483648) ∧ ((1 : Int) ≤ y → pq d 48 51 [some (.inr (.inr (39 : Nat))), some (.inl x), some (.inl y), none] [.inl (0 : Int)] (A, B, Y, K, T) (qI Q)) ∧ (y < (1 : Int) → pq d 48 51 [some (.inr (.inr (39 : Nat))), some (.inl x), some (.inl y), none] [.inl (1 : Int)] (A, B, Y, K, T) (qI Q)))) ∧ ((0 : Int) < (B 44 (x).toNat) → ((0 ≤ x ∧ x < (40 : Int)) ∧ ((-2147483648 ≤ y ∧ y < 2147483648) ∧ (-2147483648 ≤ (B 44 (x).toNat) ∧ (B 44 (x).toNat) < 2147483648) ∧ ((B 44 (x).toNat) ≤ y → pq d 48 51 [some (.inr (.inr (39 : Nat))), some (.inl x), some (.inl y), none] [.inl (0 : Int)] (A, B, Y, K, T) (qI Q)) ∧ (y < (B 44 (x).toNat) → pq d 48 51 [some (.inr (.inr (39 : Nat))), some (.inl x), some (.inl y), none] [.inl (1 : Int)] (A, B, Y, K, T) (qI Q)))))))))))))))
  refine ⟨by omega, fun z => j0 (fun n => n.1 z), fun z => ⟨hx, fun z2 => j0 (fun n => by have := n.2.1; omega), fun z2 => ⟨hx, by omega, fun z3 => j0 (fun n => by have := n.2.2.1; omega), fun z3 => ⟨hy, fun z4 => j0 (fun n => by have := n.2.2.2.1; omega), fun z4 => ?_⟩⟩⟩⟩
  obtain ⟨⟨-, -, -, -, ⟨d1, d2, d3, d4⟩, -⟩, -⟩ := MI_1 h z
  obtain ⟨-, d5, d6, d7, d8⟩ := d3 x.toNat (by omega)
  exact ⟨by omega, by omega, fun z5 => ⟨hy, by omega, fun z6 => j0 (fun n => by have := n.2.2.2.2; omega), fun z6 => j1 ⟨z, z2, z3, z4, Or.inr z6⟩⟩, fun z5 => ⟨by omega, hy, by omega, fun z6 => j0 (fun n => by have := n.2.2.2.2; omega), fun z6 => j1 ⟨z, z2, z3, z4, Or.inl z6⟩⟩⟩
set_option maxRecDepth 100000 in
set_option maxHeartbeats 4000000 in
theorem m_put {Q : zF → zF → zF → Nat → zT → Prop} (hd : 4 ≤ d) (h : MI B Y sz) (hx : ir x) (hy : ir y) (hz : ir z) (q : ∀ B', MI B' Y sz → Q A B' Y K T) : pzV d 49 [.inr (.inr 39), .inl x, .inl y, .inl z] (A, B, Y, K, T) Q := by
  have hr := MI_r h
  have j13 : ∀ c, (c = 0 ∨ c = 1) → pq d 49 13 [some (.inr (.inr 39)), some (.inl x), some (.inl y), some (.inl z)] [.inl c, .inr (.inr (39 : Nat))] (A, B, Y, K, T) (qV Q) := by
    intro c hc
    refine pq_of 7 [(27, [])] [] ?_
    show (0 < d ∧ pzI (d - 1) 48 [.inr (.inr (39 : Nat)), .inl x, .inl y] (A, B, Y, K, T) (fun nv1 Av1 Bv1 Yv1 Kv1 Tv1 => ((-2147483648 ≤ nv1 ∧ nv1 < 2147483648) ∧ ((0 : Int) ≤ nv1 → pq d 49 27 [some (.inr (.inr (39 : Nat))), some (.inl x), some (.inl y), some (.inl z)] [.inl (0 : Int), .inl c, .inr (.inr (39 : Nat))] (Av1, Bv1, Yv1, Kv1, Tv1) (qV Q)) ∧ (nv1 < (0 : Int) → pq d 49 27 [some (.inr (.inr (39 : Nat))), some (.inl x), some (.inl y), some (.inl z)] [.inl (1 : Int), .inl c, .inr (.inr (39 : Nat))] (Av1, Bv1, Yv1, Kv1, Tv1) (qV Q)))))
    refine ⟨by omega, m_cellOf h hx hy (fun n => ⟨by omega, fun w => absurd w (by omega), fun _ => ?_⟩) (fun r n r1 r2 => ⟨by omega, fun _ => ?_, fun w => absurd w (by omega)⟩)⟩
    · --
      refine pq_of 3 [(34, [])] [] ?_
      show (0 < d ∧ pzI (d - 1) 0 [.inr (.inr (39 : Nat)), .inl c, .inl (1 : Int)] (A, B, Y, K, T) (fun nv1 Av1 Bv1 Yv1 Kv1 Tv1 => ((-2147483648 ≤ nv1 ∧ nv1 < 2147483648) ∧ (nv1 = (0 : Int) → pq d 49 34 [some (.inr (.inr (39 : Nat))), some (.inl x), some (.inl y), some (.inl z)] [] (Av1, Bv1, Yv1, Kv1, Tv1) (qV Q)) ∧ (nv1 ≠ (0 : Int) → Q Av1 Bv1 Yv1 Kv1 Tv1))))
      exact ⟨by omega, m_fails hc (Or.inr rfl) (fun _ w => absurd w (by omega)) (fun c2 _ => ⟨by omega, fun w => absurd w (by omega), fun _ => q _ h⟩)⟩
    · --
      refine pq_of 11 [] [] ?_
      show (0 < d ∧ pzI (d - 1) 0 [.inr (.inr (39 : Nat)), .inl c, .inl (0 : Int)] (A, B, Y, K, T) (fun nv1 Av1 Bv1 Yv1 Kv1 Tv1 => ((-2147483648 ≤ nv1 ∧ nv1 < 2147483648) ∧ (nv1 = (0 : Int) → (0 < d ∧ pzI (d - 1) 48 [.inr (.inr (39 : Nat)), .inl x, .inl y] (Av1, Bv1, Yv1, Kv1, Tv1) (fun nv2 Av2 Bv2 Yv2 Kv2 Tv2 => ((0 ≤ nv2 ∧ nv2 < (2560 : Int)) ∧ Q Av2 (zu Bv2 61 (nv2).toNat z) Yv2 Kv2 Tv2)))) ∧ (nv1 ≠ (0 : Int) → Q Av1 Bv1 Yv1 Kv1 Tv1))))
      exact ⟨by omega, m_fails hc (Or.inl rfl) (fun _ _ => ⟨by omega, fun _ => ⟨by omega, m_cellOf (B := zu B 39 0 0) h hx hy (fun n2 => absurd n n2) (fun r2 n2 r3 r4 => ⟨by omega, q _ (MI_61 (B := zu B 39 0 0) h hz)⟩)⟩, fun w => absurd rfl w⟩) (fun c2 _ => ⟨by omega, fun w => absurd w (by omega), fun _ => q _ h⟩)⟩
  refine pzV_of 6 [(13, [])] [] ?_
  show ((-2147483648 ≤ (B 39 43) ∧ (B 39 43) < 2147483648) ∧ ((B 39 43) ≠ (0 : Int) → pq d 49 13 [some (.inr (.inr (39 : Nat))), some (.inl x), some (.inl y), some (.inl z)] [.inl (0 : Int), .inr (.inr (39 : Nat))] (A, B, Y, K, T) (qV Q)) ∧ ((B 39 43) = (0 : Int) → pq d 49 13 [some (.inr (.inr (39 : Nat))), some (.inl x), some (.inl y), some (.inl z)] [.inl (1 : Int), .inr (.inr (39 : Nat))] (A, B, Y, K, T) (qV Q)))
  exact ⟨by omega, fun _ => j13 0 (Or.inl rfl), fun _ => j13 1 (Or.inr rfl)⟩
set_option maxRecDepth 100000 in
set_option maxHeartbeats 4000000 in
theorem m_run {Q : Int → zF → zF → zF → Nat → zT → Prop} (hd : 6 ≤ d) (h : MI B Y sz) (hx : ir x) (q : ∀ r B', MI B' Y sz → Q r A B' Y K T) : pzI d 54 [.inr (.inr 39), .inl x] (A, B, Y, K, T) Q := by
  have hr := MI_r h
  have hY := h.1
  have j98 : ∀ B1, MC B1 sz → (B1 39 53) = x → (0 ≤ x ∧ x ≤ 20000) → pq d 54 98 [some (.inr (.inr 39)), some (.inl x), none] [] (A, B1, Y, K, T) (qI Q) := by
    intro B1 h1 hf hx2
    obtain ⟨⟨-, -, -, i4⟩, -, -, -, hD, -, hN, E, ht, rg, bk, hF⟩ := id h1
    refine pq_of 9 [] [] ?_
    show (0 < d ∧ pzV (d - 1) 53 [.inr (.inr (39 : Nat)), .inl x] (A, B1, Y, K, T) (fun Av1 Bv1 Yv1 Kv1 Tv1 => (((1 : Int) = 0 ∨ (1 : Int) = 1) ∧ Q (Bv1 39 52) Av1 (zu Bv1 39 44 (1 : Int)) Yv1 Kv1 Tv1)))
    refine ⟨by omega, m_go (by omega) hx2 hN hD hF i4 (fun B2 g2 => ⟨by omega, q _ _ ⟨hY, Or.inr ⟨?_, Or.inr ⟨rfl, ?_⟩⟩⟩⟩)⟩
    · have h2 := MC_GS h1 g2
      exact h2
    obtain ⟨g3, -, g4, g5, g6⟩ := g2
    have e53 : (B2 39 53) = (B1 39 53) := g3.2 53 (by omega) (by omega) (by omega) (by omega)
    exact ⟨g4, by show ir (B2 39 51); omega, g6, by show 0 ≤ (B2 39 53) ∧ (B2 39 53) ≤ 20000; omega⟩
  have j72 : ∀ (n : Nat) (k : Int) B1, MC B1 sz → (B1 39 53) = x → (0 ≤ x ∧ x ≤ 20000) → (0 ≤ k ∧ k ≤ 2560) → (B1 39 15) ≤ k + (n : Int) → pq d 54 72 [some (.inr (.inr 39)), some (.inl x), some (.inl k)] [] (A, B1, Y, K, T) (qI Q) := by
    intro n
    induction n with
    | zero =>
      intro k B1 h1 hf hx2 hk hn
      have c1 := MC_r h1
      refine pq_of 14 [(72, []), (98, [2])] [] ?_
      show ((-2147483648 ≤ k ∧ k < 2147483648) ∧ (-2147483648 ≤ (B1 39 15) ∧ (B1 39 15) < 2147483648) ∧ ((B1 39 15) ≤ k → pq d 54 98 [some (.inr (.inr (39 : Nat))), some (.inl x), none] [] (A, B1, Y, K, T) (qI Q)) ∧ (k < (B1 39 15) → ((0 ≤ k ∧ k < (2560 : Int)) ∧ ((0 ≤ k ∧ k < (2560 : Int)) ∧ pq d 54 72 [some (.inr (.inr (39 : Nat))), some (.inl x), some (.inl (k + (1 : Int)))] [] (A, (zu B1 66 (k).toNat (B1 61 (k).toNat)), Y, K, T) (qI Q)))))
      exact ⟨by omega, by omega, fun _ => j98 B1 h1 hf hx2, fun w => absurd w (by omega)⟩
    | succ n ih =>
      intro k B1 h1 hf hx2 hk hn
      have c1 := MC_r h1
      refine pq_of 14 [(72, []), (98, [2])] [] ?_
      show ((-2147483648 ≤ k ∧ k < 2147483648) ∧ (-2147483648 ≤ (B1 39 15) ∧ (B1 39 15) < 2147483648) ∧ ((B1 39 15) ≤ k → pq d 54 98 [some (.inr (.inr (39 : Nat))), some (.inl x), none] [] (A, B1, Y, K, T) (qI Q)) ∧ (k < (B1 39 15) → ((0 ≤ k ∧ k < (2560 : Int)) ∧ ((0 ≤ k ∧ k < (2560 : Int)) ∧ pq d 54 72 [some (.inr (.inr (39 : Nat))), some (.inl x), some (.inl (k + (1 : Int)))] [] (A, (zu B1 66 (k).toNat (B1 61 (k).toNat)), Y, K, T) (qI Q)))))
      exact ⟨by omega, by omega, fun _ => j98 B1 h1 hf hx2, fun w => ⟨by omega, by omega, ih _ _ ⟨mi_66 h1.1 (h1.1.2.2.1 _).1, h1.2⟩ hf hx2 (by omega) (by show (B1 39 15) ≤ _; omega)⟩⟩
  have j65 : ∀ B1, MC B1 sz → (0 ≤ x ∧ x ≤ 20000) → pq d 54 65 [some (.inr (.inr 39)), some (.inl x), none] [] (A, B1, Y, K, T) (qI Q) := by
    intro B1 h1 hx2
    have c1 := MC_r h1
    refine pq_of 5 [(72, [])] [] ?_
    show pq d 54 72 [some (.inr (.inr (39 : Nat))), some (.inl x), some (.inl (0 : Int))] [] (A, (zu B1 39 53 x), Y, K, T) (qI Q)
    exact j72 2560 0 _ h1 rfl hx2 (by omega) (by show (B1 39 15) ≤ _; omega)
  have j39 : ∀ (n : Nat) (k : Int) B1, MC B1 sz → (0 ≤ x ∧ x ≤ 20000) → (0 ≤ k ∧ k ≤ 2560) → (B1 39 15) ≤ k + (n : Int) → pq d 54 39 [some (.inr (.inr 39)), some (.inl x), some (.inl k)] [] (A, B1, Y, K, T) (qI Q) := by
    intro n
    induction n with
    | zero =>
      intro k B1 h1 hx2 hk hn
      have c1 := MC_r h1
      refine pq_of 14 [(39, []), (65, [2])] [] ?_
      show ((-2147483648 ≤ k ∧ k < 2147483648) ∧ (-2147483648 ≤ (B1 39 15) ∧ (B1 39 15) < 2147483648) ∧ ((B1 39 15) ≤ k → pq d 54 65 [some (.inr (.inr (39 : Nat))), some (.inl x), none] [] (A, B1, Y, K, T) (qI Q)) ∧ (k < (B1 39 15) → ((0 ≤ k ∧ k < (2560 : Int)) ∧ ((0 ≤ k ∧ k < (2560 : Int)) ∧ pq d 54 39 [some (.inr (.inr (39 : Nat))), some (.inl x), some (.inl (k + (1 : Int)))] [] (A, (zu B1 62 (k).toNat (B1 61 (k).toNat)), Y, K, T) (qI Q)))))
      exact ⟨by omega, by omega, fun _ => j65 B1 h1 hx2, fun w => absurd w (by omega)⟩
    | succ n ih =>
      intro k B1 h1 hx2 hk hn
      have c1 := MC_r h1
      refine pq_of 14 [(39, []), (65, [2])] [] ?_
      show ((-2147483648 ≤ k ∧ k < 2147483648) ∧ (-2147483648 ≤ (B1 39 15) ∧ (B1 39 15) < 2147483648) ∧ ((B1 39 15) ≤ k → pq d 54 65 [some (.inr (.inr (39 : Nat))), some (.inl x), none] [] (A, B1, Y, K, T) (qI Q)) ∧ (k < (B1 39 15) → ((0 ≤ k ∧ k < (2560 : Int)) ∧ ((0 ≤ k ∧ k < (2560 : Int)) ∧ pq d 54 39 [some (.inr (.inr (39 : Nat))), some (.inl x), some (.inl (k + (1 : Int)))] [] (A, (zu B1 62 (k).toNat (B1 61 (k).toNat)), Y, K, T) (qI Q)))))
      exact ⟨by omega, by omega, fun _ => j65 B1 h1 hx2, fun w => ⟨by omega, by omega, ih _ _ ⟨mi_62 h1.1 (h1.1.2.2.1 _).1, h1.2⟩ hx2 (by omega) (by show (B1 39 15) ≤ _; omega)⟩⟩
  have j29 : ∀ c e, (c = 0 ∨ c = 1) → (e = 0 ∨ e = 1) → (c = 0 → (B 39 43) ≠ 0) → (e = 0 → 0 ≤ x ∧ x ≤ 20000) → pq d 54 29 [some (.inr (.inr 39)), some (.inl x), none] [.inl e, .inl c, .inr (.inr (39 : Nat))] (A, B, Y, K, T) (qI Q) := by
    intro c e hc he c1 e1
    refine pq_of 4 [(39, [])] [] ?_
    show (0 < d ∧ pzI (d - 1) 0 [.inr (.inr (39 : Nat)), .inl c, .inl e] (A, B, Y, K, T) (fun nv1 Av1 Bv1 Yv1 Kv1 Tv1 => ((-2147483648 ≤ nv1 ∧ nv1 < 2147483648) ∧ (nv1 = (0 : Int) → pq d 54 39 [some (.inr (.inr (39 : Nat))), some (.inl x), some (.inl (0 : Int))] [] (Av1, Bv1, Yv1, Kv1, Tv1) (qI Q)) ∧ (nv1 ≠ (0 : Int) → Q (0 : Int) Av1 Bv1 Yv1 Kv1 Tv1))))
    refine ⟨by omega, m_fails hc he (fun w1 w2 => ⟨by omega, fun _ => ?_, fun w => absurd rfl w⟩) (fun c2 _ => ⟨by omega, fun w => absurd w (by omega), fun _ => q _ _ h⟩)⟩
    have h1 := (MI_1 h (c1 w1)).1
    have c3 := MC_r h1
    exact j39 2560 0 _ h1 (e1 w2) (by omega) (by show (B 39 15) ≤ _; omega)
  refine pzI_of 13 [(29, [])] [] ?_
  show ((-2147483648 ≤ (B 39 43) ∧ (B 39 43) < 2147483648) ∧ ((B 39 43) ≠ (0 : Int) → ((-2147483648 ≤ x ∧ x < 2147483648) ∧ (x < (0 : Int) → pq d 54 29 [some (.inr (.inr (39 : Nat))), some (.inl x), none] [.inl (1 : Int), .inl (0 : Int), .inr (.inr (39 : Nat))] (A, B, Y, K, T) (qI Q)) ∧ ((0 : Int) ≤ x → ((-2147483648 ≤ x ∧ x < 2147483648) ∧ (-2147483648 ≤ (20000 : Int) ∧ (20000 : Int) < 2147483648) ∧ (x ≤ (20000 : Int) → pq d 54 29 [some (.inr (.inr (39 : Nat))), some (.inl x), none] [.inl (0 : Int), .inl (0 : Int), .inr (.inr (39 : Nat))] (A, B, Y, K, T) (qI Q)) ∧ ((20000 : Int) < x → pq d 54 29 [some (.inr (.inr (39 : Nat))), some (.inl x), none] [.inl (1 : Int), .inl (0 : Int), .inr (.inr (39 : Nat))] (A, B, Y, K, T) (qI Q)))))) ∧ ((B 39 43) = (0 : Int) → ((-2147483648 ≤ x ∧ x < 2147483648) ∧ (x < (0 : Int) → pq d 54 29 [some (.inr (.inr (39 : Nat))), some (.inl x), none] [.inl (1 : Int), .inl (1 : Int), .inr (.inr (39 : Nat))] (A, B, Y, K, T) (qI Q)) ∧ ((0 : Int) ≤ x → ((-2147483648 ≤ x ∧ x < 2147483648) ∧ (-2147483648 ≤ (20000 : Int) ∧ (20000 : Int) < 2147483648) ∧ (x ≤ (20000 : Int) → pq d 54 29 [some (.inr (.inr (39 : Nat))), some (.inl x), none] [.inl (0 : Int), .inl (1 : Int), .inr (.inr (39 : Nat))] (A, B, Y, K, T) (qI Q)) ∧ ((20000 : Int) < x → pq d 54 29 [some (.inr (.inr (39 : Nat))), some (.inl x), none] [.inl (1 : Int), .inl (1 : Int), .inr (.inr (39 : Nat))] (A, B, Y, K, T) (qI Q)))))))
  exact ⟨by omega, fun w => ⟨hx, fun _ => j29 0 1 (by omega) (by omega) (by omega) (by omega), fun _ => ⟨hx, by omega, fun _ => j29 0 0 (by omega) (by omega) (by omega) (by omega), fun _ => j29 0 1 (by omega) (by omega) (by omega) (by omega)⟩⟩, fun w => ⟨hx, fun _ => j29 1 1 (by omega) (by omega) (by omega) (by omega), fun _ => ⟨hx, by omega, fun _ => j29 1 0 (by omega) (by omega) (by omega) (by omega), fun _ => j29 1 1 (by omega) (by omega) (by omega) (by omega)⟩⟩⟩
set_option maxRecDepth 100000 in
set_option maxHeartbeats 4000000 in
theorem m_disguise {Q : zF → zF → zF → Nat → zT → Prop} (h : MC B sz) (q : ∀ B', MC B' sz → ((B' 39 53) = (B 39 53) ∧ (B' 39 44) = (B 39 44)) → Q A B' Y K T) : pzV d 55 [.inr (.inr 39), .inl x] (A, B, Y, K, T) Q := by
  have key : ∀ (m : Nat) (s k : Int) B1, MC B1 sz → ((B1 39 53) = (B 39 53) ∧ (B1 39 44) = (B 39 44)) → (0 ≤ k ∧ k ≤ 40) → (B1 39 13) ≤ k + (m : Int) → pq d 55 4 [some (.inr (.inr 39)), some (.inl x), some (.inl s), some (.inl k), none, none] [] (A, B1, Y, K, T) (qV Q) := by
    intro m
    induction m with
    | zero =>
      intro s k B1 h1 hf hk hm
      have c1 := MC_r h1
      refine pq_of 5 [(4, [4, 5]), (12, []), (36, [])] [] ?_
      show ((-2147483648 ≤ k ∧ k < 2147483648) ∧ (-2147483648 ≤ (B1 39 13) ∧ (B1 39 13) < 2147483648) ∧ ((B1 39 13) ≤ k → Q A B1 Y K T) ∧ (k < (B1 39 13) → pq d 55 12 [some (.inr (.inr (39 : Nat))), some (.inl x), some (.inl s), some (.inl k), none, none] [] (A, B1, Y, K, T) (qV Q)))
      exact ⟨by omega, by omega, fun _ => q _ h1 hf, fun w => absurd w (by omega)⟩
    | succ m ih =>
      intro s k B1 h1 hf hk hm
      have c1 := MC_r h1
      have j36 : ∀ (r : Nat) (s j n : Int) B2, MC B2 sz → ((B2 39 53) = (B 39 53) ∧ (B2 39 44) = (B 39 44)) → (B2 39 13) = (B1 39 13) → k < (B1 39 13) → (0 ≤ j ∧ j ≤ 64) → (n = 1 ∨ n = (B2 44) k.toNat) → n ≤ j + (r : Int) → pq d 55 36 [some (.inr (.inr 39)), some (.inl x), some (.inl s), some (.inl k), some (.inl n), some (.inl j)] [] (A, B2, Y, K, T) (qV Q) := by
        intro r
        induction r with
        | zero =>
          intro s j n B2 h2 hf2 ht2 hk2 hj hn hr
          obtain ⟨-, -, -, -, ⟨d1, d2, d3, d4⟩, -⟩ := id h2
          obtain ⟨-, d5, d6, d7, d8⟩ := d3 k.toNat (by omega)
          refine pq_of 3 [(36, []), (43, []), (128, [4, 5])] [86] ?_
          show ((-2147483648 ≤ j ∧ j < 2147483648) ∧ (-2147483648 ≤ n ∧ n < 2147483648) ∧ (n ≤ j → pq d 55 128 [some (.inr (.inr (39 : Nat))), some (.inl x), some (.inl s), some (.inl k), none, none] [] (A, B2, Y, K, T) (qV Q)) ∧ (j < n → pq d 55 43 [some (.inr (.inr (39 : Nat))), some (.inl x), some (.inl s), some (.inl k), some (.inl n), some (.inl j)] [] (A, B2, Y, K, T) (qV Q)))
          refine ⟨by omega, by omega, fun _ => ?_, fun w => absurd w (by omega)⟩
          refine pq_of 2 [(4, [4, 5])] [] ?_
          show pq d 55 4 [some (.inr (.inr (39 : Nat))), some (.inl x), some (.inl s), some (.inl (k + (1 : Int))), none, none] [] (A, B2, Y, K, T) (qV Q)
          exact ih s (k + 1) B2 h2 hf2 (by omega) (by omega)
        | succ r ih2 =>
          intro s j n B2 h2 hf2 ht2 hk2 hj hn hr
          obtain ⟨⟨-, -, i3, -⟩, -, -, -, ⟨d1, d2, d3, d4⟩, -⟩ := id h2
          obtain ⟨-, d5, d6, d7, d8⟩ := d3 k.toNat (by omega)
          have d9 := d4 k.toNat
          have nx : ∀ s c, ir c → j < n → pq d 55 36 [some (.inr (.inr 39)), some (.inl x), some (.inl s), some (.inl k), some (.inl n), some (.inl (j + (1 : Int)))] [] (A, (zu B2 62 (((B2 46) k.toNat + j)).toNat c), Y, K, T) (qV Q) := fun s c hc hjn => ih2 s (j + 1) n _ ⟨mi_62 h2.1 hc, h2.2⟩ hf2 ht2 hk2 (by omega) hn (by omega)
          refine pq_of 47 [(36, []), (128, [4, 5])] [86] ?_
          show ((-2147483648 ≤ j ∧ j < 2147483648) ∧ (-2147483648 ≤ n ∧ n < 2147483648) ∧ (n ≤ j → pq d 55 128 [some (.inr (.inr (39 : Nat))), some (.inl x), some (.inl s), some (.inl k), none, none] [] (A, B2, Y, K, T) (qV Q)) ∧ (j < n → ((0 ≤ k ∧ k < (40 : Int)) ∧ ((0 ≤ k ∧ k < (40 : Int)) ∧ ((-2147483648 ≤ (B2 47 (k).toNat) ∧ (B2 47 (k).toNat) < 2147483648) ∧ ((B2 47 (k).toNat) = (0 : Int) → ((0 ≤ k ∧ k < (40 : Int)) ∧ ((0 ≤ ((B2 46 (k).toNat) + j) ∧ ((B2 46 (k).toNat) + j) < (2560 : Int)) ∧ ((0 ≤ ((B2 46 (k).toNat) + j) ∧ ((B2 46 (k).toNat) + j) < (2560 : Int)) ∧ ((0 ≤ k ∧ k < (40 : Int)) ∧ ((-2147483648 ≤ (B2 47 (k).toNat) ∧ (B2 47 (k).toNat) < 2147483648) ∧ ((B2 47 (k).toNat) = (0 : Int) → pq d 55 36 [some (.inr (.inr (39 : Nat))), some (.inl x), some (.inl s), some (.inl k), some (.inl n), some (.inl (j + (1 : Int)))] [] (A, (zu B2 62 (((B2 46 (k).toNat) + j)).toNat (B2 66 (((B2 46 (k).toNat) + j)).toNat)), Y, K, T) (qV Q)) ∧ ((B2 47 (k).toNat) ≠ (0 : Int) → pq d 55 36 [some (.inr (.inr (39 : Nat))), some (.inl x), some (.inl (s + (1 : Int))), some (.inl k), some (.inl n), some (.inl (j + (1 : Int)))] [] (A, (zu B2 62 (((B2 46 (k).toNat) + j)).toNat (B2 66 (((B2 46 (k).toNat) + j)).toNat)), Y, K, T) (qV Q)))))))) ∧ ((B2 47 (k).toNat) ≠ (0 : Int) → ((0 ≤ k ∧ k < (40 : Int)) ∧ ((0 ≤ ((B2 46 (k).toNat) + j) ∧ ((B2 46 (k).toNat) + j) < (2560 : Int)) ∧ (∀ cv1 : Int, -2147483648 ≤ cv1 → cv1 < 2147483648 → ((0 ≤ ((B2 46 (k).toNat) + j) ∧ ((B2 46 (k).toNat) + j) < (2560 : Int)) ∧ ((0 ≤ k ∧ k < (40 : Int)) ∧ ((-2147483648 ≤ (B2 47 (k).toNat) ∧ (B2 47 (k).toNat) < 2147483648) ∧ ((B2 47 (k).toNat) = (0 : Int) → pq d 55 36 [some (.inr (.inr (39 : Nat))), some (.inl x), some (.inl s), some (.inl k), some (.inl n), some (.inl (j + (1 : Int)))] [] (A, (zu B2 62 (((B2 46 (k).toNat) + j)).toNat cv1), Y, K, T) (qV Q)) ∧ ((B2 47 (k).toNat) ≠ (0 : Int) → pq d 55 36 [some (.inr (.inr (39 : Nat))), some (.inl x), some (.inl (s + (1 : Int))), some (.inl k), some (.inl n), some (.inl (j + (1 : Int)))] [] (A, (zu B2 62 (((B2 46 (k).toNat) + j)).toNat cv1), Y, K, T) (qV Q))))))))))))))
          refine ⟨by omega, by omega, fun _ => ?_, fun w => ⟨by omega, by omega, by omega, fun _ => ⟨by omega, by omega, by omega, by omega, by omega, fun _ => nx _ _ (i3 _).2.1 w, fun _ => nx _ _ (i3 _).2.1 w⟩, fun _ => ⟨by omega, by omega, fun c c1 c2 => ⟨by omega, by omega, by omega, fun _ => nx _ _ ⟨c1, c2⟩ w, fun _ => nx _ _ ⟨c1, c2⟩ w⟩⟩⟩⟩
          refine pq_of 2 [(4, [4, 5])] [] ?_
          show pq d 55 4 [some (.inr (.inr (39 : Nat))), some (.inl x), some (.inl s), some (.inl (k + (1 : Int))), none, none] [] (A, B2, Y, K, T) (qV Q)
          exact ih s (k + 1) B2 h2 hf2 (by omega) (by omega)
      obtain ⟨-, -, -, -, ⟨d1, d2, d3, d4⟩, -⟩ := id h1
      refine pq_of 16 [(4, [4, 5]), (36, [])] [] ?_
      show ((-2147483648 ≤ k ∧ k < 2147483648) ∧ (-2147483648 ≤ (B1 39 13) ∧ (B1 39 13) < 2147483648) ∧ ((B1 39 13) ≤ k → Q A B1 Y K T) ∧ (k < (B1 39 13) → ((0 ≤ k ∧ k < (40 : Int)) ∧ ((-2147483648 ≤ (B1 44 (k).toNat) ∧ (B1 44 (k).toNat) < 2147483648) ∧ ((B1 44 (k).toNat) ≠ (0 : Int) → ((0 ≤ k ∧ k < (40 : Int)) ∧ pq d 55 36 [some (.inr (.inr (39 : Nat))), some (.inl x), some (.inl s), some (.inl k), some (.inl (B1 44 (k).toNat)), some (.inl (0 : Int))] [] (A, B1, Y, K, T) (qV Q))) ∧ ((B1 44 (k).toNat) = (0 : Int) → pq d 55 36 [some (.inr (.inr (39 : Nat))), some (.inl x), some (.inl s), some (.inl k), some (.inl (1 : Int)), some (.inl (0 : Int))] [] (A, B1, Y, K, T) (qV Q))))))
      refine ⟨by omega, by omega, fun _ => q _ h1 hf, fun w => ?_⟩
      obtain ⟨-, d5, d6, d7, d8⟩ := d3 k.toNat (by omega)
      exact ⟨by omega, by omega, fun _ => ⟨by omega, j36 64 s 0 _ B1 h1 hf rfl w (by omega) (Or.inr rfl) (by omega)⟩, fun _ => j36 64 s 0 _ B1 h1 hf rfl w (by omega) (Or.inl rfl) (by omega)⟩
  have c1 := MC_r h
  refine pzV_of 4 [(4, [4, 5])] [] ?_
  show pq d 55 4 [some (.inr (.inr (39 : Nat))), some (.inl x), some (.inl (0 : Int)), some (.inl (0 : Int)), none, none] [] (A, B, Y, K, T) (qV Q)
  exact key 40 0 0 B h ⟨rfl, rfl⟩ (by omega) (by omega)
set_option maxRecDepth 100000 in
set_option maxHeartbeats 4000000 in
theorem m_twin {Q : Int → zF → zF → zF → Nat → zT → Prop} (hd : 8 ≤ d) (h : MI B Y sz) (hx : ir x) (q : ∀ r B', MI B' Y sz → Q r A B' Y K T) : pzI d 56 [.inr (.inr 39), .inl x] (A, B, Y, K, T) Q := by
  have hr := MI_r h
  have hY := h.1
  have body : ∀ (n s e : Int), (0 ≤ n ∧ n ≤ 4000) → ir s → ir e → ∀ B0, MC B0 sz → (B0 39 44) = 1 → (0 ≤ (B0 39 53) ∧ (B0 39 53) ≤ 20000) → pq d 56 41 [some (.inr (.inr 39)), some (.inl x), some (.inl n), some (.inl s), some (.inl e), some (.inl (0 : Int)), none, none] [] (A, B0, Y, K, T) (qI Q) := by
    intro n s e hn hs he
    have j246 : ∀ (m : Nat) (v k : Int) B1, MC B1 sz → (B1 39 44) = 1 → MR B1 → (0 ≤ k ∧ k ≤ 2560) → (B1 39 15) ≤ k + (m : Int) → pq d 56 246 [some (.inr (.inr 39)), some (.inl x), some (.inl n), some (.inl s), some (.inl e), none, some (.inl v), some (.inl k)] [] (A, B1, Y, K, T) (qI Q) := by
      intro m
      induction m with
      | zero =>
        intro v k B1 h1 hR hM hk hm
        have c1 := MC_r h1
        refine pq_of 14 [(246, [])] [] ?_
        show ((-2147483648 ≤ k ∧ k < 2147483648) ∧ (-2147483648 ≤ (B1 39 15) ∧ (B1 39 15) < 2147483648) ∧ ((B1 39 15) ≤ k → Q v A B1 Y K T) ∧ (k < (B1 39 15) → ((0 ≤ k ∧ k < (2560 : Int)) ∧ ((0 ≤ k ∧ k < (2560 : Int)) ∧ pq d 56 246 [some (.inr (.inr (39 : Nat))), some (.inl x), some (.inl n), some (.inl s), some (.inl e), none, some (.inl v), some (.inl (k + (1 : Int)))] [] (A, (zu B1 62 (k).toNat (B1 67 (k).toNat)), Y, K, T) (qI Q)))))
        exact ⟨by omega, by omega, fun _ => q _ _ ⟨hY, Or.inr ⟨h1, Or.inr ⟨hR, hM⟩⟩⟩, fun w => absurd w (by omega)⟩
      | succ m ih =>
        intro v k B1 h1 hR hM hk hm
        have c1 := MC_r h1
        refine pq_of 14 [(246, [])] [] ?_
        show ((-2147483648 ≤ k ∧ k < 2147483648) ∧ (-2147483648 ≤ (B1 39 15) ∧ (B1 39 15) < 2147483648) ∧ ((B1 39 15) ≤ k → Q v A B1 Y K T) ∧ (k < (B1 39 15) → ((0 ≤ k ∧ k < (2560 : Int)) ∧ ((0 ≤ k ∧ k < (2560 : Int)) ∧ pq d 56 246 [some (.inr (.inr (39 : Nat))), some (.inl x), some (.inl n), some (.inl s), some (.inl e), none, some (.inl v), some (.inl (k + (1 : Int)))] [] (A, (zu B1 62 (k).toNat (B1 67 (k).toNat)), Y, K, T) (qI Q)))))
        exact ⟨by omega, by omega, fun _ => q _ _ ⟨hY, Or.inr ⟨h1, Or.inr ⟨hR, hM⟩⟩⟩, fun w => ⟨by omega, by omega, ih v _ _ ⟨mi_62 h1.1 (h1.1.2.2.1 _).2.2.1, h1.2⟩ hR hM (by omega) (by show (B1 39 15) ≤ _; omega)⟩⟩
    have j227 : ∀ v B1, MC B1 sz → (B1 39 44) = 1 → (0 ≤ (B1 39 53) ∧ (B1 39 53) ≤ 20000) → pq d 56 227 [some (.inr (.inr 39)), some (.inl x), some (.inl n), some (.inl s), some (.inl e), none, some (.inl v), none] [] (A, B1, Y, K, T) (qI Q) := by
      intro v B1 h1 hR hf
      have c1 := MC_r h1
      refine pq_of 11 [(246, [])] [] ?_
      show pq d 56 246 [some (.inr (.inr (39 : Nat))), some (.inl x), some (.inl n), some (.inl s), some (.inl e), none, some (.inl v), some (.inl (0 : Int))] [] (A, (zu (zu (zu B1 39 50 n) 39 51 s) 39 52 e), Y, K, T) (qI Q)
      exact j246 2560 v 0 _ h1 hR ⟨hn, hs, he, hf⟩ (by omega) (by show (B1 39 15) ≤ _; omega)
    have j201 : ∀ (m : Nat) (v k : Int) B1, MC B1 sz → (B1 39 44) = 1 → (0 ≤ (B1 39 53) ∧ (B1 39 53) ≤ 20000) → (0 ≤ k ∧ k ≤ 4000) → n ≤ k + (m : Int) → pq d 56 201 [some (.inr (.inr 39)), some (.inl x), some (.inl n), some (.inl s), some (.inl e), none, some (.inl v), some (.inl k)] [] (A, B1, Y, K, T) (qI Q) := by
      intro m
      induction m with
      | zero =>
        intro v k B1 h1 hR hf hk hm
        refine pq_of 13 [(201, []), (227, [7])] [] ?_
        show ((-2147483648 ≤ k ∧ k < 2147483648) ∧ (-2147483648 ≤ n ∧ n < 2147483648) ∧ (n ≤ k → pq d 56 227 [some (.inr (.inr (39 : Nat))), some (.inl x), some (.inl n), some (.inl s), some (.inl e), none, some (.inl v), none] [] (A, B1, Y, K, T) (qI Q)) ∧ (k < n → ((0 ≤ k ∧ k < (4001 : Int)) ∧ ((0 ≤ k ∧ k < (4001 : Int)) ∧ pq d 56 201 [some (.inr (.inr (39 : Nat))), some (.inl x), some (.inl n), some (.inl s), some (.inl e), none, some (.inl v), some (.inl (k + (1 : Int)))] [] (A, (zu B1 63 (k).toNat (B1 68 (k).toNat)), Y, K, T) (qI Q)))))
        exact ⟨by omega, by omega, fun _ => j227 v B1 h1 hR hf, fun w => absurd w (by omega)⟩
      | succ m ih =>
        intro v k B1 h1 hR hf hk hm
        refine pq_of 13 [(201, []), (227, [7])] [] ?_
        show ((-2147483648 ≤ k ∧ k < 2147483648) ∧ (-2147483648 ≤ n ∧ n < 2147483648) ∧ (n ≤ k → pq d 56 227 [some (.inr (.inr (39 : Nat))), some (.inl x), some (.inl n), some (.inl s), some (.inl e), none, some (.inl v), none] [] (A, B1, Y, K, T) (qI Q)) ∧ (k < n → ((0 ≤ k ∧ k < (4001 : Int)) ∧ ((0 ≤ k ∧ k < (4001 : Int)) ∧ pq d 56 201 [some (.inr (.inr (39 : Nat))), some (.inl x), some (.inl n), some (.inl s), some (.inl e), none, some (.inl v), some (.inl (k + (1 : Int)))] [] (A, (zu B1 63 (k).toNat (B1 68 (k).toNat)), Y, K, T) (qI Q)))))
        exact ⟨by omega, by omega, fun _ => j227 v B1 h1 hR hf, fun w => ⟨by omega, by omega, ih v _ _ ⟨mi_63 h1.1 (h1.1.2.2.1 _).2.2.2, h1.2⟩ hR hf (by omega) (by omega)⟩⟩
    have j153 : ∀ (k : Int) B1, MC B1 sz → (B1 39 44) = 1 → MR B1 → (0 ≤ k ∧ k ≤ 4000) → pq d 56 153 [some (.inr (.inr 39)), some (.inl x), some (.inl n), some (.inl s), some (.inl e), some (.inl k), none, none] [] (A, B1, Y, K, T) (qI Q) := by
      intro k B1 h1 hR hM hk
      obtain ⟨m1, m2, m3, m4⟩ := id hM
      have j : ∀ v, pq d 56 201 [some (.inr (.inr 39)), some (.inl x), some (.inl n), some (.inl s), some (.inl e), none, some (.inl v), some (.inl (0 : Int))] [] (A, B1, Y, K, T) (qI Q) := fun v => j201 4000 v 0 B1 h1 hR m4 (by omega) (by omega)
      refine pq_of 20 [(201, [5])] [] ?_
      show ((-2147483648 ≤ k ∧ k < 2147483648) ∧ (-2147483648 ≤ n ∧ n < 2147483648) ∧ (k < n → pq d 56 201 [some (.inr (.inr (39 : Nat))), some (.inl x), some (.inl n), some (.inl s), some (.inl e), none, some (.inl k), some (.inl (0 : Int))] [] (A, B1, Y, K, T) (qI Q)) ∧ (n ≤ k → ((-2147483648 ≤ k ∧ k < 2147483648) ∧ (-2147483648 ≤ (B1 39 50) ∧ (B1 39 50) < 2147483648) ∧ ((B1 39 50) ≤ k → ((-2147483648 ≤ (B1 39 52) ∧ (B1 39 52) < 2147483648) ∧ (-2147483648 ≤ e ∧ e < 2147483648) ∧ ((B1 39 52) ≠ e → pq d 56 201 [some (.inr (.inr (39 : Nat))), some (.inl x), some (.inl n), some (.inl s), some (.inl e), none, some (.inl (-2 : Int)), some (.inl (0 : Int))] [] (A, B1, Y, K, T) (qI Q)) ∧ ((B1 39 52) = e → ((-2147483648 ≤ (B1 39 51) ∧ (B1 39 51) < 2147483648) ∧ (-2147483648 ≤ s ∧ s < 2147483648) ∧ ((B1 39 51) = s → pq d 56 201 [some (.inr (.inr (39 : Nat))), some (.inl x), some (.inl n), some (.inl s), some (.inl e), none, some (.inl (-1 : Int)), some (.inl (0 : Int))] [] (A, B1, Y, K, T) (qI Q)) ∧ ((B1 39 51) ≠ s → pq d 56 201 [some (.inr (.inr (39 : Nat))), some (.inl x), some (.inl n), some (.inl s), some (.inl e), none, some (.inl (-2 : Int)), some (.inl (0 : Int))] [] (A, B1, Y, K, T) (qI Q)))))) ∧ (k < (B1 39 50) → pq d 56 201 [some (.inr (.inr (39 : Nat))), some (.inl x), some (.inl n), some (.inl s), some (.inl e), none, some (.inl k), some (.inl (0 : Int))] [] (A, B1, Y, K, T) (qI Q)))))
      exact ⟨by omega, by omega, fun _ => j _, fun _ => ⟨by omega, by omega, fun _ => ⟨m3, he, fun _ => j _, fun _ => ⟨m2, hs, fun _ => j _, fun _ => j _⟩⟩, fun _ => j _⟩⟩
    have j115 : ∀ (m : Nat) (k : Int) B1, MC B1 sz → (B1 39 44) = 1 → MR B1 → (0 ≤ k ∧ k ≤ 4000) → n ≤ k + (m : Int) → pq d 56 115 [some (.inr (.inr 39)), some (.inl x), some (.inl n), some (.inl s), some (.inl e), some (.inl k), none, none] [] (A, B1, Y, K, T) (qI Q) := by
      intro m
      induction m with
      | zero =>
        intro k B1 h1 hR hM hk hm
        refine pq_of 3 [(115, []), (121, []), (153, [])] [] ?_
        show ((-2147483648 ≤ k ∧ k < 2147483648) ∧ (-2147483648 ≤ n ∧ n < 2147483648) ∧ (n ≤ k → pq d 56 153 [some (.inr (.inr (39 : Nat))), some (.inl x), some (.inl n), some (.inl s), some (.inl e), some (.inl k), none, none] [] (A, B1, Y, K, T) (qI Q)) ∧ (k < n → pq d 56 121 [some (.inr (.inr (39 : Nat))), some (.inl x), some (.inl n), some (.inl s), some (.inl e), some (.inl k), none, none] [] (A, B1, Y, K, T) (qI Q)))
        exact ⟨by omega, by omega, fun _ => j153 k B1 h1 hR hM hk, fun w => absurd w (by omega)⟩
      | succ m ih =>
        intro k B1 h1 hR hM hk hm
        obtain ⟨m1, m2, m3, m4⟩ := id hM
        have i3 := h1.1.2.2.1 k.toNat
        have i4 := h1.1.2.2.2 k.toNat
        refine pq_of 18 [(115, []), (153, [])] [] ?_
        show ((-2147483648 ≤ k ∧ k < 2147483648) ∧ (-2147483648 ≤ n ∧ n < 2147483648) ∧ (n ≤ k → pq d 56 153 [some (.inr (.inr (39 : Nat))), some (.inl x), some (.inl n), some (.inl s), some (.inl e), some (.inl k), none, none] [] (A, B1, Y, K, T) (qI Q)) ∧ (k < n → ((-2147483648 ≤ k ∧ k < 2147483648) ∧ (-2147483648 ≤ (B1 39 50) ∧ (B1 39 50) < 2147483648) ∧ ((B1 39 50) ≤ k → pq d 56 153 [some (.inr (.inr (39 : Nat))), some (.inl x), some (.inl n), some (.inl s), some (.inl e), some (.inl k), none, none] [] (A, B1, Y, K, T) (qI Q)) ∧ (k < (B1 39 50) → ((0 ≤ k ∧ k < (4001 : Int)) ∧ ((0 ≤ k ∧ k < (4001 : Int)) ∧ ((-2147483648 ≤ (B1 63 (k).toNat) ∧ (B1 63 (k).toNat) < 2147483648) ∧ (-2147483648 ≤ (B1 68 (k).toNat) ∧ (B1 68 (k).toNat) < 2147483648) ∧ ((B1 63 (k).toNat) ≠ (B1 68 (k).toNat) → pq d 56 153 [some (.inr (.inr (39 : Nat))), some (.inl x), some (.inl n), some (.inl s), some (.inl e), some (.inl k), none, none] [] (A, B1, Y, K, T) (qI Q)) ∧ ((B1 63 (k).toNat) = (B1 68 (k).toNat) → pq d 56 115 [some (.inr (.inr (39 : Nat))), some (.inl x), some (.inl n), some (.inl s), some (.inl e), some (.inl (k + (1 : Int))), none, none] [] (A, B1, Y, K, T) (qI Q)))))))))
        exact ⟨by omega, by omega, fun _ => j153 k B1 h1 hR hM hk, fun w => ⟨by omega, by omega, fun _ => j153 k B1 h1 hR hM hk, fun _ => ⟨by omega, by omega, i4.2.1, i3.2.2.2, fun _ => j153 k B1 h1 hR hM hk, fun _ => ih (k + 1) B1 h1 hR hM (by omega) (by omega)⟩⟩⟩
    have j99 : ∀ B1, MC B1 sz → (B1 39 44) = 1 → (0 ≤ (B1 39 53) ∧ (B1 39 53) ≤ 20000) → pq d 56 99 [some (.inr (.inr 39)), some (.inl x), some (.inl n), some (.inl s), some (.inl e), none, none, none] [] (A, B1, Y, K, T) (qI Q) := by
      intro B1 h1 hR hf
      refine pq_of 9 [(115, [])] [] ?_
      show (0 < d ∧ pzV (d - 1) 55 [.inr (.inr (39 : Nat)), .inl x] (A, B1, Y, K, T) (fun Av1 Bv1 Yv1 Kv1 Tv1 => (0 < d ∧ pzV (d - 1) 53 [.inr (.inr (39 : Nat)), .inl (Bv1 39 53)] (Av1, Bv1, Yv1, Kv1, Tv1) (fun Av2 Bv2 Yv2 Kv2 Tv2 => pq d 56 115 [some (.inr (.inr (39 : Nat))), some (.inl x), some (.inl n), some (.inl s), some (.inl e), some (.inl (0 : Int)), none, none] [] (Av2, Bv2, Yv2, Kv2, Tv2) (qI Q)))))
      refine ⟨by omega, m_disguise h1 (fun B2 h2 s2 => ⟨by omega, ?_⟩)⟩
      obtain ⟨⟨-, -, -, i4⟩, -, -, -, hD, -, hN, E, ht, rg, bk, hF⟩ := id h2
      refine m_go (by omega) (by omega) hN hD hF i4 (fun B3 g3 => ?_)
      obtain ⟨g4, -, g5, g6, g7⟩ := id g3
      have e53 : (B3 39 53) = (B2 39 53) := g4.2 53 (by omega) (by omega) (by omega) (by omega)
      have e44 : (B3 39 44) = (B2 39 44) := g4.2 44 (by omega) (by omega) (by omega) (by omega)
      exact j115 4000 0 B3 (MC_GS h2 g3) (by omega) ⟨g5, by show ir (B3 39 51); omega, g7, by omega⟩ (by omega) (by omega)
    have j70 : ∀ (m : Nat) (k : Int) B1, MC B1 sz → (B1 39 44) = 1 → (0 ≤ (B1 39 53) ∧ (B1 39 53) ≤ 20000) → (0 ≤ k ∧ k ≤ 2560) → (B1 39 15) ≤ k + (m : Int) → pq d 56 70 [some (.inr (.inr 39)), some (.inl x), some (.inl n), some (.inl s), some (.inl e), some (.inl k), none, none] [] (A, B1, Y, K, T) (qI Q) := by
      intro m
      induction m with
      | zero =>
        intro k B1 h1 hR hf hk hm
        have c1 := MC_r h1
        refine pq_of 14 [(70, []), (99, [5])] [] ?_
        show ((-2147483648 ≤ k ∧ k < 2147483648) ∧ (-2147483648 ≤ (B1 39 15) ∧ (B1 39 15) < 2147483648) ∧ ((B1 39 15) ≤ k → pq d 56 99 [some (.inr (.inr (39 : Nat))), some (.inl x), some (.inl n), some (.inl s), some (.inl e), none, none, none] [] (A, B1, Y, K, T) (qI Q)) ∧ (k < (B1 39 15) → ((0 ≤ k ∧ k < (2560 : Int)) ∧ ((0 ≤ k ∧ k < (2560 : Int)) ∧ pq d 56 70 [some (.inr (.inr (39 : Nat))), some (.inl x), some (.inl n), some (.inl s), some (.inl e), some (.inl (k + (1 : Int))), none, none] [] (A, (zu B1 67 (k).toNat (B1 62 (k).toNat)), Y, K, T) (qI Q)))))
        exact ⟨by omega, by omega, fun _ => j99 B1 h1 hR hf, fun w => absurd w (by omega)⟩
      | succ m ih =>
        intro k B1 h1 hR hf hk hm
        have c1 := MC_r h1
        refine pq_of 14 [(70, []), (99, [5])] [] ?_
        show ((-2147483648 ≤ k ∧ k < 2147483648) ∧ (-2147483648 ≤ (B1 39 15) ∧ (B1 39 15) < 2147483648) ∧ ((B1 39 15) ≤ k → pq d 56 99 [some (.inr (.inr (39 : Nat))), some (.inl x), some (.inl n), some (.inl s), some (.inl e), none, none, none] [] (A, B1, Y, K, T) (qI Q)) ∧ (k < (B1 39 15) → ((0 ≤ k ∧ k < (2560 : Int)) ∧ ((0 ≤ k ∧ k < (2560 : Int)) ∧ pq d 56 70 [some (.inr (.inr (39 : Nat))), some (.inl x), some (.inl n), some (.inl s), some (.inl e), some (.inl (k + (1 : Int))), none, none] [] (A, (zu B1 67 (k).toNat (B1 62 (k).toNat)), Y, K, T) (qI Q)))))
        exact ⟨by omega, by omega, fun _ => j99 B1 h1 hR hf, fun w => ⟨by omega, by omega, ih _ _ ⟨mi_67 h1.1 (h1.1.2.2.2 _).1, h1.2⟩ hR hf (by omega) (by show (B1 39 15) ≤ _; omega)⟩⟩
    have j67 : ∀ B1, MC B1 sz → (B1 39 44) = 1 → (0 ≤ (B1 39 53) ∧ (B1 39 53) ≤ 20000) → pq d 56 67 [some (.inr (.inr 39)), some (.inl x), some (.inl n), some (.inl s), some (.inl e), none, none, none] [] (A, B1, Y, K, T) (qI Q) := by
      intro B1 h1 hR hf
      have c1 := MC_r h1
      refine pq_of 2 [(70, [])] [] ?_
      show pq d 56 70 [some (.inr (.inr (39 : Nat))), some (.inl x), some (.inl n), some (.inl s), some (.inl e), some (.inl (0 : Int)), none, none] [] (A, B1, Y, K, T) (qI Q)
      exact j70 2560 0 B1 h1 hR hf (by omega) (by omega)
    have j41 : ∀ (m : Nat) (k : Int) B1, MC B1 sz → (B1 39 44) = 1 → (0 ≤ (B1 39 53) ∧ (B1 39 53) ≤ 20000) → (0 ≤ k ∧ k ≤ 4000) → n ≤ k + (m : Int) → pq d 56 41 [some (.inr (.inr 39)), some (.inl x), some (.inl n), some (.inl s), some (.inl e), some (.inl k), none, none] [] (A, B1, Y, K, T) (qI Q) := by
      intro m
      induction m with
      | zero =>
        intro k B1 h1 hR hf hk hm
        refine pq_of 13 [(41, []), (67, [5])] [] ?_
        show ((-2147483648 ≤ k ∧ k < 2147483648) ∧ (-2147483648 ≤ n ∧ n < 2147483648) ∧ (n ≤ k → pq d 56 67 [some (.inr (.inr (39 : Nat))), some (.inl x), some (.inl n), some (.inl s), some (.inl e), none, none, none] [] (A, B1, Y, K, T) (qI Q)) ∧ (k < n → ((0 ≤ k ∧ k < (4001 : Int)) ∧ ((0 ≤ k ∧ k < (4001 : Int)) ∧ pq d 56 41 [some (.inr (.inr (39 : Nat))), some (.inl x), some (.inl n), some (.inl s), some (.inl e), some (.inl (k + (1 : Int))), none, none] [] (A, (zu B1 68 (k).toNat (B1 63 (k).toNat)), Y, K, T) (qI Q)))))
        exact ⟨by omega, by omega, fun _ => j67 B1 h1 hR hf, fun w => absurd w (by omega)⟩
      | succ m ih =>
        intro k B1 h1 hR hf hk hm
        refine pq_of 13 [(41, []), (67, [5])] [] ?_
        show ((-2147483648 ≤ k ∧ k < 2147483648) ∧ (-2147483648 ≤ n ∧ n < 2147483648) ∧ (n ≤ k → pq d 56 67 [some (.inr (.inr (39 : Nat))), some (.inl x), some (.inl n), some (.inl s), some (.inl e), none, none, none] [] (A, B1, Y, K, T) (qI Q)) ∧ (k < n → ((0 ≤ k ∧ k < (4001 : Int)) ∧ ((0 ≤ k ∧ k < (4001 : Int)) ∧ pq d 56 41 [some (.inr (.inr (39 : Nat))), some (.inl x), some (.inl n), some (.inl s), some (.inl e), some (.inl (k + (1 : Int))), none, none] [] (A, (zu B1 68 (k).toNat (B1 63 (k).toNat)), Y, K, T) (qI Q)))))
        exact ⟨by omega, by omega, fun _ => j67 B1 h1 hR hf, fun w => ⟨by omega, by omega, ih _ _ ⟨mi_68 h1.1 (h1.1.2.2.2 _).2.1, h1.2⟩ hR hf (by omega) (by omega)⟩⟩
    intro B1 h1 hR hf
    exact j41 4000 0 B1 h1 hR hf (by omega) (by omega)
  have j13 : ∀ c, (c = 0 ∨ c = 1) → (c = 0 → (B 39 44) ≠ 0) → pq d 56 13 [some (.inr (.inr 39)), some (.inl x), none, none, none, none, none, none] [.inl c, .inr (.inr (39 : Nat))] (A, B, Y, K, T) (qI Q) := by
    intro c hc c1
    refine pq_of 14 [(41, [])] [] ?_
    show (0 < d ∧ pzI (d - 1) 0 [.inr (.inr (39 : Nat)), .inl c, .inl (0 : Int)] (A, B, Y, K, T) (fun nv1 Av1 Bv1 Yv1 Kv1 Tv1 => ((-2147483648 ≤ nv1 ∧ nv1 < 2147483648) ∧ (nv1 = (0 : Int) → pq d 56 41 [some (.inr (.inr (39 : Nat))), some (.inl x), some (.inl (Bv1 39 50)), some (.inl (Bv1 39 51)), some (.inl (Bv1 39 52)), some (.inl (0 : Int)), none, none] [] (Av1, Bv1, Yv1, Kv1, Tv1) (qI Q)) ∧ (nv1 ≠ (0 : Int) → Q (0 : Int) Av1 Bv1 Yv1 Kv1 Tv1))))
    refine ⟨by omega, m_fails hc (Or.inl rfl) (fun w1 w2 => ⟨by omega, fun _ => ?_, fun w => absurd rfl w⟩) (fun c2 _ => ⟨by omega, fun w => absurd w (by omega), fun _ => q _ _ h⟩)⟩
    obtain ⟨h1, -, h2, ⟨m1, m2, m3, m4⟩⟩ := MI_2 h (c1 w1)
    exact body _ _ _ m1 m2 m3 (zu B 39 0 0) h1 h2 m4
  refine pzI_of 6 [(13, [])] [] ?_
  show ((-2147483648 ≤ (B 39 44) ∧ (B 39 44) < 2147483648) ∧ ((B 39 44) ≠ (0 : Int) → pq d 56 13 [some (.inr (.inr (39 : Nat))), some (.inl x), none, none, none, none, none, none] [.inl (0 : Int), .inr (.inr (39 : Nat))] (A, B, Y, K, T) (qI Q)) ∧ ((B 39 44) = (0 : Int) → pq d 56 13 [some (.inr (.inr (39 : Nat))), some (.inl x), none, none, none, none, none, none] [.inl (1 : Int), .inr (.inr (39 : Nat))] (A, B, Y, K, T) (qI Q)))
  exact ⟨by omega, fun w => j13 0 (Or.inl rfl) (fun _ => w), fun _ => j13 1 (Or.inr rfl) (fun w => absurd w (by omega))⟩
set_option maxRecDepth 100000 in
set_option maxHeartbeats 4000000 in
theorem m_value {Q : Int → zF → zF → zF → Nat → zT → Prop} (hd : 4 ≤ d) (h : MI B Y sz) (hx : ir x) (hy : ir y) (q : ∀ r B', MI B' Y sz → Q r A B' Y K T) : pzI d 57 [.inr (.inr 39), .inl x, .inl y] (A, B, Y, K, T) Q := by
  have hr := MI_r h
  have j34 : ∀ c e, (c = 0 ∨ c = 1) → (e = 0 ∨ e = 1) → (c = 0 → e = 0 → cP B x y) → pq d 57 34 [some (.inr (.inr 39)), some (.inl x), some (.inl y)] [.inl e, .inl c, .inr (.inr (39 : Nat))] (A, B, Y, K, T) (qI Q) := by
    intro c e hc he ce
    refine pq_of 10 [] [] ?_
    show (0 < d ∧ pzI (d - 1) 0 [.inr (.inr (39 : Nat)), .inl c, .inl e] (A, B, Y, K, T) (fun nv1 Av1 Bv1 Yv1 Kv1 Tv1 => ((-2147483648 ≤ nv1 ∧ nv1 < 2147483648) ∧ (nv1 = (0 : Int) → (0 < d ∧ pzI (d - 1) 48 [.inr (.inr (39 : Nat)), .inl x, .inl y] (Av1, Bv1, Yv1, Kv1, Tv1) (fun nv2 Av2 Bv2 Yv2 Kv2 Tv2 => ((0 ≤ nv2 ∧ nv2 < (2560 : Int)) ∧ Q (Bv2 62 (nv2).toNat) Av2 Bv2 Yv2 Kv2 Tv2)))) ∧ (nv1 ≠ (0 : Int) → Q (0 : Int) Av1 Bv1 Yv1 Kv1 Tv1))))
    exact ⟨by omega, m_fails hc he (fun w1 w2 => ⟨by omega, fun _ => ⟨by omega, m_cellOf (B := zu B 39 0 0) h hx hy (fun n => absurd (ce w1 w2) n) (fun r n r1 r2 => ⟨by omega, q _ _ h⟩)⟩, fun w => absurd rfl w⟩) (fun c2 _ => ⟨by omega, fun w => absurd w (by omega), fun _ => q _ _ h⟩)⟩
  refine pzI_of 16 [(34, [])] [] ?_
  show ((-2147483648 ≤ (B 39 44) ∧ (B 39 44) < 2147483648) ∧ ((B 39 44) ≠ (0 : Int) → ((-2147483648 ≤ (B 39 44) ∧ (B 39 44) < 2147483648) ∧ ((B 39 44) = (0 : Int) → pq d 57 34 [some (.inr (.inr (39 : Nat))), some (.inl x), some (.inl y)] [.inl (0 : Int), .inl (0 : Int), .inr (.inr (39 : Nat))] (A, B, Y, K, T) (qI Q)) ∧ ((B 39 44) ≠ (0 : Int) → (0 < d ∧ pzI (d - 1) 48 [.inr (.inr (39 : Nat)), .inl x, .inl y] (A, B, Y, K, T) (fun nv1 Av1 Bv1 Yv1 Kv1 Tv1 => ((-2147483648 ≤ nv1 ∧ nv1 < 2147483648) ∧ ((0 : Int) ≤ nv1 → pq d 57 34 [some (.inr (.inr (39 : Nat))), some (.inl x), some (.inl y)] [.inl (0 : Int), .inl (0 : Int), .inr (.inr (39 : Nat))] (Av1, Bv1, Yv1, Kv1, Tv1) (qI Q)) ∧ (nv1 < (0 : Int) → pq d 57 34 [some (.inr (.inr (39 : Nat))), some (.inl x), some (.inl y)] [.inl (1 : Int), .inl (0 : Int), .inr (.inr (39 : Nat))] (Av1, Bv1, Yv1, Kv1, Tv1) (qI Q)))))))) ∧ ((B 39 44) = (0 : Int) → ((-2147483648 ≤ (B 39 44) ∧ (B 39 44) < 2147483648) ∧ ((B 39 44) = (0 : Int) → pq d 57 34 [some (.inr (.inr (39 : Nat))), some (.inl x), some (.inl y)] [.inl (0 : Int), .inl (1 : Int), .inr (.inr (39 : Nat))] (A, B, Y, K, T) (qI Q)) ∧ ((B 39 44) ≠ (0 : Int) → (0 < d ∧ pzI (d - 1) 48 [.inr (.inr (39 : Nat)), .inl x, .inl y] (A, B, Y, K, T) (fun nv2 Av2 Bv2 Yv2 Kv2 Tv2 => ((-2147483648 ≤ nv2 ∧ nv2 < 2147483648) ∧ ((0 : Int) ≤ nv2 → pq d 57 34 [some (.inr (.inr (39 : Nat))), some (.inl x), some (.inl y)] [.inl (0 : Int), .inl (1 : Int), .inr (.inr (39 : Nat))] (Av2, Bv2, Yv2, Kv2, Tv2) (qI Q)) ∧ (nv2 < (0 : Int) → pq d 57 34 [some (.inr (.inr (39 : Nat))), some (.inl x), some (.inl y)] [.inl (1 : Int), .inl (1 : Int), .inr (.inr (39 : Nat))] (Av2, Bv2, Yv2, Kv2, Tv2) (qI Q)))))))))
  exact ⟨by omega, fun w => ⟨by omega, fun w2 => absurd w2 w, fun _ => ⟨by omega, m_cellOf h hx hy (fun n => ⟨by omega, fun w3 => absurd w3 (by omega), fun _ => j34 0 1 (by omega) (by omega) (by omega)⟩) (fun r n r1 r2 => ⟨by omega, fun _ => j34 0 0 (by omega) (by omega) (fun _ _ => n), fun w3 => absurd w3 (by omega)⟩)⟩⟩, fun w => ⟨by omega, fun _ => j34 1 0 (by omega) (by omega) (by omega), fun w2 => absurd w w2⟩⟩
set_option maxRecDepth 100000 in
set_option maxHeartbeats 4000000 in
theorem m_note {Q : Int → zF → zF → zF → Nat → zT → Prop} (hd : 4 ≤ d) (h : MI B Y sz) (hx : ir x) (q : ∀ r B', MI B' Y sz → Q r A B' Y K T) : pzI d 58 [.inr (.inr 39), .inl x] (A, B, Y, K, T) Q := by
  have hr := MI_r h
  have j37 : ∀ c e, (c = 0 ∨ c = 1) → (e = 0 ∨ e = 1) → (c = 0 → e = 0 → 0 ≤ x ∧ x < 4001) → pq d 58 37 [some (.inr (.inr 39)), some (.inl x)] [.inl e, .inl c, .inr (.inr (39 : Nat))] (A, B, Y, K, T) (qI Q) := by
    intro c e hc he ce
    refine pq_of 7 [] [] ?_
    show (0 < d ∧ pzI (d - 1) 0 [.inr (.inr (39 : Nat)), .inl c, .inl e] (A, B, Y, K, T) (fun nv1 Av1 Bv1 Yv1 Kv1 Tv1 => ((-2147483648 ≤ nv1 ∧ nv1 < 2147483648) ∧ (nv1 = (0 : Int) → ((0 ≤ x ∧ x < (4001 : Int)) ∧ Q (Bv1 63 (x).toNat) Av1 Bv1 Yv1 Kv1 Tv1)) ∧ (nv1 ≠ (0 : Int) → Q (0 : Int) Av1 Bv1 Yv1 Kv1 Tv1))))
    exact ⟨by omega, m_fails hc he (fun w1 w2 => ⟨by omega, fun _ => ⟨ce w1 w2, q _ _ h⟩, fun w => absurd rfl w⟩) (fun c2 _ => ⟨by omega, fun w => absurd w (by omega), fun _ => q _ _ h⟩)⟩
  refine pzI_of 17 [(37, [])] [] ?_
  show ((-2147483648 ≤ (B 39 44) ∧ (B 39 44) < 2147483648) ∧ ((B 39 44) ≠ (0 : Int) → ((-2147483648 ≤ (B 39 44) ∧ (B 39 44) < 2147483648) ∧ ((B 39 44) = (0 : Int) → pq d 58 37 [some (.inr (.inr (39 : Nat))), some (.inl x)] [.inl (0 : Int), .inl (0 : Int), .inr (.inr (39 : Nat))] (A, B, Y, K, T) (qI Q)) ∧ ((B 39 44) ≠ (0 : Int) → ((-2147483648 ≤ x ∧ x < 2147483648) ∧ (x < (0 : Int) → pq d 58 37 [some (.inr (.inr (39 : Nat))), some (.inl x)] [.inl (1 : Int), .inl (0 : Int), .inr (.inr (39 : Nat))] (A, B, Y, K, T) (qI Q)) ∧ ((0 : Int) ≤ x → ((-2147483648 ≤ x ∧ x < 2147483648) ∧ (-2147483648 ≤ (B 39 50) ∧ (B 39 50) < 2147483648) ∧ (x < (B 39 50) → pq d 58 37 [some (.inr (.inr (39 : Nat))), some (.inl x)] [.inl (0 : Int), .inl (0 : Int), .inr (.inr (39 : Nat))] (A, B, Y, K, T) (qI Q)) ∧ ((B 39 50) ≤ x → pq d 58 37 [some (.inr (.inr (39 : Nat))), some (.inl x)] [.inl (1 : Int), .inl (0 : Int), .inr (.inr (39 : Nat))] (A, B, Y, K, T) (qI Q)))))))) ∧ ((B 39 44) = (0 : Int) → ((-2147483648 ≤ (B 39 44) ∧ (B 39 44) < 2147483648) ∧ ((B 39 44) = (0 : Int) → pq d 58 37 [some (.inr (.inr (39 : Nat))), some (.inl x)] [.inl (0 : Int), .inl (1 : Int), .inr (.inr (39 : Nat))] (A, B, Y, K, T) (qI Q)) ∧ ((B 39 44) ≠ (0 : Int) → ((-2147483648 ≤ x ∧ x < 2147483648) ∧ (x < (0 : Int) → pq d 58 37 [some (.inr (.inr (39 : Nat))), some (.inl x)] [.inl (1 : Int), .inl (1 : Int), .inr (.inr (39 : Nat))] (A, B, Y, K, T) (qI Q)) ∧ ((0 : Int) ≤ x → ((-2147483648 ≤ x ∧ x < 2147483648) ∧ (-2147483648 ≤ (B 39 50) ∧ (B 39 50) < 2147483648) ∧ (x < (B 39 50) → pq d 58 37 [some (.inr (.inr (39 : Nat))), some (.inl x)] [.inl (0 : Int), .inl (1 : Int), .inr (.inr (39 : Nat))] (A, B, Y, K, T) (qI Q)) ∧ ((B 39 50) ≤ x → pq d 58 37 [some (.inr (.inr (39 : Nat))), some (.inl x)] [.inl (1 : Int), .inl (1 : Int), .inr (.inr (39 : Nat))] (A, B, Y, K, T) (qI Q)))))))))
  refine ⟨by omega, fun w => ⟨by omega, fun w2 => absurd w2 w, fun _ => ?_⟩, fun w => ⟨by omega, fun _ => j37 1 0 (by omega) (by omega) (by omega), fun w2 => absurd w w2⟩⟩
  obtain ⟨h1, -, h2, ⟨m1, m2, m3, m4⟩⟩ := MI_2 h w
  exact ⟨hx, fun _ => j37 0 1 (by omega) (by omega) (by omega), fun _ => ⟨hx, by omega, fun _ => j37 0 0 (by omega) (by omega) (by omega), fun _ => j37 0 1 (by omega) (by omega) (by omega)⟩⟩
set_option maxRecDepth 100000 in
set_option maxHeartbeats 4000000 in
theorem m_letter {Q : Int → zF → zF → zF → Nat → zT → Prop} (hd : 4 ≤ d) (h : MI B Y sz) (hx : ir x) (hy : y = 0 ∨ y = 1) (hz : ir z) (q : ∀ r B', MI B' Y sz → Q r A B' Y K T) : pzI d 59 [.inr (.inr 39), .inl x, .inl y, .inl z] (A, B, Y, K, T) Q := by
  have hr := MI_r h
  obtain ⟨⟨-, i2, -, -⟩, ⟨-, -, -, -, b5, -⟩, -, -⟩ := MI_mi h
  have hT : x ≥ 0 → x < (B 39 13) → 0 ≤ (B 42) x.toNat ∧ 0 ≤ (B 43) x.toNat ∧ (B 42) x.toNat + (B 43) x.toNat ≤ 3000 := by
    intro x0 x1
    obtain ⟨-, h1 | ⟨h1, h2⟩⟩ := h
    · have := h1.2.2.2.2.1
      omega
    · obtain ⟨-, -, -, -, ⟨d1, d2, d3, d4⟩, -⟩ := h1
      exact (d3 x.toNat (by omega)).1
  have j93 : ∀ n u, (0 ≤ x ∧ 0 ≤ z) → (y = 0 → x < (B 39 13) ∧ z < (B 43) x.toNat) → (y = 1 → x < (B 39 17) ∧ z < (B 53) x.toNat) → pq d 59 93 [some (.inr (.inr 39)), some (.inl x), some (.inl y), some (.inl z), some (.inl n), some (.inl u)] [] (A, (zu B 39 0 0), Y, K, T) (qI Q) := by
    intro n u h0 h1 h2
    refine pq_of 13 [] [] ?_
    show ((-2147483648 ≤ y ∧ y < 2147483648) ∧ (y = (0 : Int) → ((0 ≤ x ∧ x < (40 : Int)) ∧ ((0 ≤ ((B 42 (x).toNat) + z) ∧ ((B 42 (x).toNat) + z) < (3000 : Int)) ∧ ((0 ≤ (B 41 (((B 42 (x).toNat) + z)).toNat) ∧ (B 41 (((B 42 (x).toNat) + z)).toNat) < 65536) ∧ Q (B 41 (((B 42 (x).toNat) + z)).toNat) A (zu B 39 0 0) Y K T)))) ∧ (y ≠ (0 : Int) → ((0 ≤ x ∧ x < (6 : Int)) ∧ ((0 ≤ ((B 52 (x).toNat) + z) ∧ ((B 52 (x).toNat) + z) < (3000 : Int)) ∧ ((0 ≤ (B 41 (((B 52 (x).toNat) + z)).toNat) ∧ (B 41 (((B 52 (x).toNat) + z)).toNat) < 65536) ∧ Q (B 41 (((B 52 (x).toNat) + z)).toNat) A (zu B 39 0 0) Y K T)))))
    refine ⟨by omega, fun w => ?_, fun w => ?_⟩
    · have h3 := hT h0.1 (h1 w).1
      have h4 := h1 w
      exact ⟨by omega, by omega, i2 _, q _ _ h⟩
    · have h4 := h2 (by omega)
      have h3 := b5 x.toNat (by omega)
      exact ⟨by omega, by omega, i2 _, q _ _ h⟩
  have j71 : ∀ n u0 u, (u = 0 ∨ u = 1) → (u = 1 → (0 ≤ x ∧ 0 ≤ z) ∧ (y = 0 → x < (B 39 13) ∧ z < (B 43) x.toNat) ∧ (y = 1 → x < (B 39 17) ∧ z < (B 53) x.toNat)) → pq d 59 71 [some (.inr (.inr 39)), some (.inl x), some (.inl y), some (.inl z), some (.inl n), some (.inl u0)] [.inl u] (A, B, Y, K, T) (qI Q) := by
    intro n u0 u hu h1
    refine pq_of 11 [(93, [])] [] ?_
    show ((-2147483648 ≤ u ∧ u < 2147483648) ∧ (u ≠ (0 : Int) → (0 < d ∧ pzI (d - 1) 0 [.inr (.inr (39 : Nat)), .inl (0 : Int), .inl (0 : Int)] (A, B, Y, K, T) (fun nv1 Av1 Bv1 Yv1 Kv1 Tv1 => ((-2147483648 ≤ nv1 ∧ nv1 < 2147483648) ∧ (nv1 = (0 : Int) → pq d 59 93 [some (.inr (.inr (39 : Nat))), some (.inl x), some (.inl y), some (.inl z), some (.inl n), some (.inl u)] [] (Av1, Bv1, Yv1, Kv1, Tv1) (qI Q)) ∧ (nv1 ≠ (0 : Int) → ((0 ≤ (0 : Int) ∧ (0 : Int) < 65536) ∧ Q (0 : Int) Av1 Bv1 Yv1 Kv1 Tv1)))))) ∧ (u = (0 : Int) → (0 < d ∧ pzI (d - 1) 0 [.inr (.inr (39 : Nat)), .inl (1 : Int), .inl (0 : Int)] (A, B, Y, K, T) (fun nv2 Av2 Bv2 Yv2 Kv2 Tv2 => ((-2147483648 ≤ nv2 ∧ nv2 < 2147483648) ∧ (nv2 = (0 : Int) → pq d 59 93 [some (.inr (.inr (39 : Nat))), some (.inl x), some (.inl y), some (.inl z), some (.inl n), some (.inl u)] [] (Av2, Bv2, Yv2, Kv2, Tv2) (qI Q)) ∧ (nv2 ≠ (0 : Int) → ((0 ≤ (0 : Int) ∧ (0 : Int) < 65536) ∧ Q (0 : Int) Av2 Bv2 Yv2 Kv2 Tv2)))))))
    exact ⟨by omega, fun w => ⟨by omega, m_fails (Or.inl rfl) (Or.inl rfl) (fun _ _ => ⟨by omega, fun _ => j93 n u (h1 (by omega)).1 (h1 (by omega)).2.1 (h1 (by omega)).2.2, fun w => absurd rfl w⟩) (fun c2 w => absurd w (by omega))⟩, fun w => ⟨by omega, m_fails (Or.inr rfl) (Or.inl rfl) (fun w _ => absurd w (by omega)) (fun c2 _ => ⟨by omega, fun w => absurd w (by omega), fun _ => ⟨by omega, q _ _ h⟩⟩)⟩⟩
  have j32 : ∀ n u, (u = 0 ∨ u = 1) → (u = 1 → 0 ≤ x ∧ (y = 0 → x < (B 39 13)) ∧ (y = 1 → x < (B 39 17))) → pq d 59 32 [some (.inr (.inr 39)), some (.inl x), some (.inl y), some (.inl z), some (.inl n), none] [.inl u] (A, B, Y, K, T) (qI Q) := by
    intro n u hu h1
    refine pq_of 16 [(71, [])] [] ?_
    show ((-2147483648 ≤ u ∧ u < 2147483648) ∧ (u = (0 : Int) → pq d 59 71 [some (.inr (.inr (39 : Nat))), some (.inl x), some (.inl y), some (.inl z), some (.inl n), some (.inl u)] [.inl (0 : Int)] (A, B, Y, K, T) (qI Q)) ∧ (u ≠ (0 : Int) → ((-2147483648 ≤ z ∧ z < 2147483648) ∧ (z < (0 : Int) → pq d 59 71 [some (.inr (.inr (39 : Nat))), some (.inl x), some (.inl y), some (.inl z), some (.inl n), some (.inl u)] [.inl (0 : Int)] (A, B, Y, K, T) (qI Q)) ∧ ((0 : Int) ≤ z → ((-2147483648 ≤ y ∧ y < 2147483648) ∧ (y = (0 : Int) → ((0 ≤ x ∧ x < (40 : Int)) ∧ ((-2147483648 ≤ z ∧ z < 2147483648) ∧ (-2147483648 ≤ (B 43 (x).toNat) ∧ (B 43 (x).toNat) < 2147483648) ∧ ((B 43 (x).toNat) ≤ z → pq d 59 71 [some (.inr (.inr (39 : Nat))), some (.inl x), some (.inl y), some (.inl z), some (.inl n), some (.inl u)] [.inl (0 : Int)] (A, B, Y, K, T) (qI Q)) ∧ (z < (B 43 (x).toNat) → pq d 59 71 [some (.inr (.inr (39 : Nat))), some (.inl x), some (.inl y), some (.inl z), some (.inl n), some (.inl u)] [.inl (1 : Int)] (A, B, Y, K, T) (qI Q))))) ∧ (y ≠ (0 : Int) → ((0 ≤ x ∧ x < (6 : Int)) ∧ ((-2147483648 ≤ z ∧ z < 2147483648) ∧ (-2147483648 ≤ (B 53 (x).toNat) ∧ (B 53 (x).toNat) < 2147483648) ∧ ((B 53 (x).toNat) ≤ z → pq d 59 71 [some (.inr (.inr (39 : Nat))), some (.inl x), some (.inl y), some (.inl z), some (.inl n), some (.inl u)] [.inl (0 : Int)] (A, B, Y, K, T) (qI Q)) ∧ (z < (B 53 (x).toNat) → pq d 59 71 [some (.inr (.inr (39 : Nat))), some (.inl x), some (.inl y), some (.inl z), some (.inl n), some (.inl u)] [.inl (1 : Int)] (A, B, Y, K, T) (qI Q))))))))))
    refine ⟨by omega, fun _ => j71 n u 0 (by omega) (by omega), fun w => ⟨hz, fun _ => j71 n u 0 (by omega) (by omega), fun z0 => ⟨by omega, fun y0 => ?_, fun y1 => ?_⟩⟩⟩
    · have h2 := h1 (by omega)
      have h3 := hT h2.1 (h2.2.1 y0)
      exact ⟨by omega, hz, by omega, fun _ => j71 n u 0 (by omega) (by omega), fun w2 => j71 n u 1 (by omega) (fun _ => ⟨by omega, fun _ => ⟨h2.2.1 y0, w2⟩, fun w3 => absurd w3 (by omega)⟩)⟩
    · have h2 := h1 (by omega)
      have h4 := h2.2.2 (by omega)
      have h3 := b5 x.toNat (by omega)
      exact ⟨by omega, hz, by omega, fun _ => j71 n u 0 (by omega) (by omega), fun w2 => j71 n u 1 (by omega) (fun _ => ⟨by omega, fun w3 => absurd w3 (by omega), fun _ => ⟨h4, w2⟩⟩)⟩
  refine pzI_of 13 [(32, [])] [] ?_
  show ((-2147483648 ≤ y ∧ y < 2147483648) ∧ (y = (0 : Int) → ((-2147483648 ≤ x ∧ x < 2147483648) ∧ (x < (0 : Int) → pq d 59 32 [some (.inr (.inr (39 : Nat))), some (.inl x), some (.inl y), some (.inl z), some (.inl (B 39 13)), none] [.inl (0 : Int)] (A, B, Y, K, T) (qI Q)) ∧ ((0 : Int) ≤ x → ((-2147483648 ≤ x ∧ x < 2147483648) ∧ (-2147483648 ≤ (B 39 13) ∧ (B 39 13) < 2147483648) ∧ ((B 39 13) ≤ x → pq d 59 32 [some (.inr (.inr (39 : Nat))), some (.inl x), some (.inl y), some (.inl z), some (.inl (B 39 13)), none] [.inl (0 : Int)] (A, B, Y, K, T) (qI Q)) ∧ (x < (B 39 13) → pq d 59 32 [some (.inr (.inr (39 : Nat))), some (.inl x), some (.inl y), some (.inl z), some (.inl (B 39 13)), none] [.inl (1 : Int)] (A, B, Y, K, T) (qI Q)))))) ∧ (y ≠ (0 : Int) → ((-2147483648 ≤ x ∧ x < 2147483648) ∧ (x < (0 : Int) → pq d 59 32 [some (.inr (.inr (39 : Nat))), some (.inl x), some (.inl y), some (.inl z), some (.inl (B 39 17)), none] [.inl (0 : Int)] (A, B, Y, K, T) (qI Q)) ∧ ((0 : Int) ≤ x → ((-2147483648 ≤ x ∧ x < 2147483648) ∧ (-2147483648 ≤ (B 39 17) ∧ (B 39 17) < 2147483648) ∧ ((B 39 17) ≤ x → pq d 59 32 [some (.inr (.inr (39 : Nat))), some (.inl x), some (.inl y), some (.inl z), some (.inl (B 39 17)), none] [.inl (0 : Int)] (A, B, Y, K, T) (qI Q)) ∧ (x < (B 39 17) → pq d 59 32 [some (.inr (.inr (39 : Nat))), some (.inl x), some (.inl y), some (.inl z), some (.inl (B 39 17)), none] [.inl (1 : Int)] (A, B, Y, K, T) (qI Q)))))))
  exact ⟨by omega, fun _ => ⟨hx, fun _ => j32 _ 0 (by omega) (by omega), fun _ => ⟨hx, by omega, fun _ => j32 _ 0 (by omega) (by omega), fun _ => j32 _ 1 (by omega) (by omega)⟩⟩, fun _ => ⟨hx, fun _ => j32 _ 0 (by omega) (by omega), fun _ => ⟨hx, by omega, fun _ => j32 _ 0 (by omega) (by omega), fun _ => j32 _ 1 (by omega) (by omega)⟩⟩⟩
set_option maxRecDepth 100000 in
set_option maxHeartbeats 4000000 in
theorem m_count {Q : Int → zF → zF → zF → Nat → zT → Prop} (h : MI B Y sz) (hx : ir x) (q : ∀ r, Q r A (zu B 39 0 0) Y K T) : pzI d 60 [.inr (.inr 39), .inl x] (A, B, Y, K, T) Q := by
  have hr := MI_r h
  refine pzI_of 12 [] [] ?_
  show ((-2147483648 ≤ x ∧ x < 2147483648) ∧ ((x < (0 : Int) ∨ (10 : Int) < x) → Q (-1 : Int) A (zu B 39 0 (0 : Int)) Y K T) ∧ (x = (0 : Int) → Q (B 39 13) A (zu B 39 0 (0 : Int)) Y K T) ∧ (x = (1 : Int) → Q (B 39 17) A (zu B 39 0 (0 : Int)) Y K T) ∧ (x = (2 : Int) → Q (B 39 18) A (zu B 39 0 (0 : Int)) Y K T) ∧ (x = (3 : Int) → Q (B 39 14) A (zu B 39 0 (0 : Int)) Y K T) ∧ (x = (4 : Int) → Q (B 39 19) A (zu B 39 0 (0 : Int)) Y K T) ∧ (x = (5 : Int) → (∀ cv1 : Int, -2147483648 ≤ cv1 → cv1 < 2147483648 → Q cv1 A (zu B 39 0 (0 : Int)) Y K T)) ∧ (x = (6 : Int) → ((-2147483648 ≤ (B 39 43) ∧ (B 39 43) < 2147483648) ∧ ((B 39 43) = (0 : Int) → Q (0 : Int) A (zu B 39 0 (0 : Int)) Y K T) ∧ ((B 39 43) ≠ (0 : Int) → Q (1 : Int) A (zu B 39 0 (0 : Int)) Y K T))) ∧ (x = (7 : Int) → ((-2147483648 ≤ (B 39 44) ∧ (B 39 44) < 2147483648) ∧ ((B 39 44) = (0 : Int) → Q (-1 : Int) A (zu B 39 0 (0 : Int)) Y K T) ∧ ((B 39 44) ≠ (0 : Int) → Q (B 39 50) A (zu B 39 0 (0 : Int)) Y K T))) ∧ (x = (8 : Int) → ((-2147483648 ≤ (B 39 44) ∧ (B 39 44) < 2147483648) ∧ ((B 39 44) = (0 : Int) → Q (-1 : Int) A (zu B 39 0 (0 : Int)) Y K T) ∧ ((B 39 44) ≠ (0 : Int) → Q (B 39 51) A (zu B 39 0 (0 : Int)) Y K T))) ∧ (x = (9 : Int) → ((-2147483648 ≤ (B 39 44) ∧ (B 39 44) < 2147483648) ∧ ((B 39 44) = (0 : Int) → Q (-1 : Int) A (zu B 39 0 (0 : Int)) Y K T) ∧ ((B 39 44) ≠ (0 : Int) → Q (B 39 52) A (zu B 39 0 (0 : Int)) Y K T))) ∧ (x = (10 : Int) → Q (B 39 3) A (zu B 39 0 (0 : Int)) Y K T) ∧ True)
  exact ⟨hx, fun _ => q _, fun _ => q _, fun _ => q _, fun _ => q _, fun _ => q _, fun _ => q _, fun _ => fun _ _ _ => q _, fun _ => ⟨by omega, fun _ => q _, fun _ => q _⟩, fun _ => ⟨by omega, fun _ => q _, fun _ => q _⟩, fun _ => ⟨by omega, fun _ => q _, fun _ => q _⟩, fun _ => ⟨by omega, fun _ => q _, fun _ => q _⟩, fun _ => q _, trivial⟩
set_option maxRecDepth 100000 in
set_option maxHeartbeats 4000000 in
theorem m_check {Q : Int → zF → zF → zF → Nat → zT → Prop} (hd : 30 ≤ d) (h : MI B Y sz) (q : ∀ r B' Y', MI B' Y' 0 → Q r A B' Y' K T) : pzI d 47 [.inr (.inr 39)] (A, B, Y, K, T) Q := by
  obtain ⟨h1, h2, hY, h3⟩ := MI_mi h
  have j227 : ∀ (m : Nat) (k : Int) B1 Y1, MI B1 Y1 0 → (0 ≤ k ∧ k ≤ 2560) → 2560 ≤ k + (m : Int) → pq d 47 227 [some (.inr (.inr 39)), some (.inl k)] [] (A, B1, Y1, K, T) (qI Q) := by
    intro m
    induction m with
    | zero =>
      intro k B1 Y1 g1 hk hm
      refine pq_of 12 [(227, [])] [] ?_
      show ((-2147483648 ≤ k ∧ k < 2147483648) ∧ (-2147483648 ≤ (2560 : Int) ∧ (2560 : Int) < 2147483648) ∧ ((2560 : Int) ≤ k → Q (B1 39 10) A B1 Y1 K T) ∧ (k < (2560 : Int) → ((0 ≤ k ∧ k < (2560 : Int)) ∧ pq d 47 227 [some (.inr (.inr (39 : Nat))), some (.inl (k + (1 : Int)))] [] (A, (zu B1 61 (k).toNat (0 : Int)), Y1, K, T) (qI Q))))
      exact ⟨by omega, by omega, fun _ => q _ _ _ g1, fun w => absurd w (by omega)⟩
    | succ m ih =>
      intro k B1 Y1 g1 hk hm
      refine pq_of 12 [(227, [])] [] ?_
      show ((-2147483648 ≤ k ∧ k < 2147483648) ∧ (-2147483648 ≤ (2560 : Int) ∧ (2560 : Int) < 2147483648) ∧ ((2560 : Int) ≤ k → Q (B1 39 10) A B1 Y1 K T) ∧ (k < (2560 : Int) → ((0 ≤ k ∧ k < (2560 : Int)) ∧ pq d 47 227 [some (.inr (.inr (39 : Nat))), some (.inl (k + (1 : Int)))] [] (A, (zu B1 61 (k).toNat (0 : Int)), Y1, K, T) (qI Q))))
      exact ⟨by omega, by omega, fun _ => q _ _ _ g1, fun w => ⟨by omega, ih _ _ _ (MI_61 g1 (by omega)) (by omega) (by omega)⟩⟩
  have j225 : ∀ B1 Y1, MI B1 Y1 0 → pq d 47 225 [some (.inr (.inr 39)), none] [] (A, B1, Y1, K, T) (qI Q) := by
    intro B1 Y1 g1
    refine pq_of 2 [(227, [])] [] ?_
    show pq d 47 227 [some (.inr (.inr (39 : Nat))), some (.inl (0 : Int))] [] (A, B1, Y1, K, T) (qI Q)
    exact j227 2560 0 B1 Y1 g1 (by omega) (by omega)
  have j195 : ∀ B1 Y1, MI B1 Y1 0 → ir (B1 39 11) → pq d 47 195 [some (.inr (.inr 39)), none] [] (A, B1, Y1, K, T) (qI Q) := by
    intro B1 Y1 g1 hp
    have hr := MI_r g1
    refine pq_of 15 [(225, [])] [] ?_
    show ((-2147483648 ≤ (B1 39 43) ∧ (B1 39 43) < 2147483648) ∧ ((B1 39 43) = (0 : Int) → pq d 47 225 [some (.inr (.inr (39 : Nat))), none] [] (A, B1, Y1, K, T) (qI Q)) ∧ ((B1 39 43) ≠ (0 : Int) → ((-2147483648 ≤ (B1 39 11) ∧ (B1 39 11) < 2147483648) ∧ ((B1 39 11) < (0 : Int) → pq d 47 225 [some (.inr (.inr (39 : Nat))), none] [] (A, B1, Y1, K, T) (qI Q)) ∧ ((0 : Int) ≤ (B1 39 11) → pq d 47 225 [some (.inr (.inr (39 : Nat))), none] [] (A, (zu B1 39 10 ((B1 39 12) + ((16 : Int) * (B1 39 11)))), Y1, K, T) (qI Q)))))
    exact ⟨by omega, fun _ => j225 B1 Y1 g1, fun _ => ⟨hp, fun _ => j225 B1 Y1 g1, fun _ => j225 _ Y1 g1⟩⟩
  have fr : ∀ B1 B2, mi B1 → FR B1 B2 → mi B2 := by
    intro B1 B2 m1 f
    obtain ⟨e40, e41, e61, e62, e63, e64, e65, e66, e67, e68, -⟩ := f
    unfold mi
    rw [e40, e41, e61, e62, e63, e64, e66, e67, e68]
    exact m1
  have j126 : ∀ B1, mi B1 → mb B1 → ((B1 39 5) = 0 ∧ (0 ≤ (B1 39 4) ∧ (B1 39 4) ≤ 3000) ∧ (B1 39 38) = 0 ∧ (B1 39 20) = 0 ∧ (B1 39 17) = 0 ∧ (B1 39 16) = 0 ∧ (B1 39 15) = 0 ∧ (B1 39 13) = 0 ∧ (B1 39 10) = 0 ∧ (B1 39 11) = -1 ∧ (B1 39 12) = 0 ∧ (B1 39 37) = 0 ∧ (B1 39 44) = 0 ∧ (B1 39 58) = 0 ∧ (B1 39 3) = 0) → pq d 47 126 [some (.inr (.inr 39)), none] [] (A, B1, Y, K, T) (qI Q) := by
    intro B1 m1 ⟨b1, b2, b3, b4, b5, b6⟩ ⟨s1, s2, s3, s4, s5, s6, s7, s8, s9, s10, s11, s12, s13, s14, s15⟩
    refine pq_of 12 [(147, [])] [] ?_
    show (0 < d ∧ pzV (d - 1) 5 [.inr (.inr (39 : Nat))] (A, B1, Y, K, T) (fun Av1 Bv1 Yv1 Kv1 Tv1 => (0 < d ∧ pzV (d - 1) 15 [.inr (.inr (39 : Nat)), .inl (15 : Int), .inl (0 : Int), .inl (0 : Int)] (Av1, Bv1, Yv1, Kv1, Tv1) (fun Av2 Bv2 Yv2 Kv2 Tv2 => (0 < d ∧ pzV (d - 1) 21 [.inr (.inr (39 : Nat)), .inl (1 : Int)] (Av2, Bv2, Yv2, Kv2, Tv2) (fun Av3 Bv3 Yv3 Kv3 Tv3 => (0 < d ∧ pzV (d - 1) 22 [.inr (.inr (39 : Nat))] (Av3, Bv3, Yv3, Kv3, Tv3) (fun Av4 Bv4 Yv4 Kv4 Tv4 => pq d 47 147 [some (.inr (.inr (39 : Nat))), none] [] (Av4, Bv4, Yv4, Kv4, Tv4) (qI Q)))))))))
    refine ⟨by omega, m_next (by omega) ⟨s2, m1.2.1⟩ hY (by omega) (by omega) (fun a tt f Y' g1 g2 g3 g4 g5 g6 => ⟨by omega, m_say (by show 0 ≤ (B1 39 38); omega) (by show (B1 39 38) < 12000; omega) ⟨by omega, m_plain (n := 0) (by omega) (by show (B1 39 58) = _; omega) (by omega) ⟨by omega, ?_⟩⟩⟩)⟩
    have hPZ : PZ B1 (mW (zu (zu (zu (zu (mS B1 a tt f a) 58 ((B1 39 38)).toNat 15) 59 ((B1 39 38)).toNat 0) 60 ((B1 39 38)).toNat 0) 39 38 ((B1 39 38) + 1)) 0 1 0 0 0 0) Y' pg1 pg1 0 0 f f 1 0 0 0 tt (B1 39 42) 0 (fun _ => 0) (fun _ => 0) (fun _ => 0) (fun _ => 0) := by
      rw [s3]
      refine ⟨FR_rf _, ⟨s2, m1.2.1⟩, g6, ⟨by show 0 ≤ f; omega, g2, rfl, g3, g4, g5⟩, ⟨s9, s4, rfl, rfl, s5, s8, s6, rfl, rfl, rfl, g2⟩, ⟨by show 0 ≤ (B1 39 13) ∧ (B1 39 13) ≤ 40; omega, by show 0 ≤ (B1 39 15) ∧ (B1 39 15) ≤ 64 * (B1 39 13); omega, fun k hk => absurd (show (k : Int) < (B1 39 13) from hk) (by omega), b1⟩, ⟨by show 0 ≤ (B1 39 16) ∧ (B1 39 16) ≤ 12; omega, fun k hk => absurd (show (k : Int) < (B1 39 16) from hk) (by omega), b2⟩, ⟨by show 0 ≤ (B1 39 17) ∧ (B1 39 17) ≤ 6; omega, b5, b3, b4⟩, ⟨by show ir (B1 39 11); omega, by show ir (B1 39 12); omega, Or.inl s12, b6⟩, ⟨rfl, ⟨⟨rfl, rfl, rfl, rfl, rfl⟩, trivial⟩, by show 1 ≤ 2000; omega⟩, ?_, TD_1⟩
      refine ⟨by omega, fun p hp => ?_, fun _ _ => rfl, rfl, fun _ _ _ _ _ => Int.le_refl _, fun p p1 p2 => ⟨Int.le_refl _, Int.le_refl _, fun z => absurd (show (0 : Int) < 0 from z) (by omega), fun _ => by show (0 : Int) ≤ f - 0; omega⟩, ⟨fun f hf => absurd hf (by omega), Int.le_refl _, by show (0 : Int) ≤ f; omega⟩, fun f hf => absurd hf (by omega)⟩
      obtain rfl : p = 0 := by omega
      exact Or.inr (Or.inr (Or.inr ⟨rfl, fun z => absurd z (by omega), Or.inl ⟨(1, 0, 0, 0, 0), List.mem_cons_self, Or.inl rfl, rfl⟩⟩))
    refine pzV_pq (h_goOn (B0 := B1) (by omega) (fun B2 Y2 on tn f2 => ?_) (fun B2 Y2 e2 => ?_) 1000000 _ _ pg1 0 0 f 1 0 0 0 tt (B1 39 42) 0 _ _ _ _ hPZ WT_1 (by show (1 : Int) + 1 ≤ _; omega) (by omega) (by show 64 * (3001 - f) + 4 < _; omega))
    · have g := PF_eq f2
      obtain ⟨c1, c2, c3, c4, c5, c6, c7, c8, c9, c10⟩ := id f2
      have c0 := c1
      obtain ⟨-, -, -, -, -, -, -, -, -, -, v1, v2, v3⟩ := c0
      have hfin : MI (zu (zu (zu (zu (zu (zu B2 39 43 0) 39 19 0) 39 18 0) 39 17 0) 39 14 0) 39 13 0) Y2 0 := ⟨c3, Or.inl ⟨fr B1 B2 m1 c1, ⟨c7.2.2.2, c8.2.2, c9.2.2.1, c9.2.2.2, c9.2.1, c10.2.2.2⟩, ⟨by show (B2 39 3) = 0; omega, by omega, by omega⟩, rfl, rfl, rfl, by show (B2 39 44) = 0; omega⟩⟩
      refine pq_of 10 [(170, []), (195, [])] [] ?_
      show ((-2147483648 ≤ (B2 39 10) ∧ (B2 39 10) < 2147483648) ∧ ((B2 39 10) ≠ (0 : Int) → (((0 : Int) = 0 ∨ (0 : Int) = 1) ∧ ((-2147483648 ≤ (0 : Int) ∧ (0 : Int) < 2147483648) ∧ ((0 : Int) ≠ (0 : Int) → pq d 47 195 [some (.inr (.inr (39 : Nat))), none] [] (A, (zu B2 39 43 (0 : Int)), Y2, K, T) (qI Q)) ∧ ((0 : Int) = (0 : Int) → pq d 47 170 [some (.inr (.inr (39 : Nat))), none] [] (A, (zu B2 39 43 (0 : Int)), Y2, K, T) (qI Q))))) ∧ ((B2 39 10) = (0 : Int) → (((1 : Int) = 0 ∨ (1 : Int) = 1) ∧ ((-2147483648 ≤ (1 : Int) ∧ (1 : Int) < 2147483648) ∧ ((1 : Int) ≠ (0 : Int) → pq d 47 195 [some (.inr (.inr (39 : Nat))), none] [] (A, (zu B2 39 43 (1 : Int)), Y2, K, T) (qI Q)) ∧ ((1 : Int) = (0 : Int) → pq d 47 170 [some (.inr (.inr (39 : Nat))), none] [] (A, (zu B2 39 43 (1 : Int)), Y2, K, T) (qI Q))))))
      refine ⟨by omega, fun _ => ⟨by omega, by omega, fun w => absurd rfl w, fun _ => ?_⟩, fun w => absurd w (by omega)⟩
      refine pq_of 15 [(195, [])] [] ?_
      show pq d 47 195 [some (.inr (.inr (39 : Nat))), none] [] (A, (zu (zu (zu (zu (zu (zu B2 39 43 (0 : Int)) 39 19 (0 : Int)) 39 18 (0 : Int)) 39 17 (0 : Int)) 39 14 (0 : Int)) 39 13 (0 : Int)), Y2, K, T) (qI Q)
      exact j195 _ Y2 hfin (by show ir (B2 39 11); exact c10.1)
    · obtain ⟨c1, c2, ⟨c3, c4, c5, c6⟩, c7, c8, c9, c10, c11⟩ := id e2
      have c0 := c1
      obtain ⟨-, -, -, -, -, -, -, -, -, -, v1, v2, v3⟩ := c0
      have hfin : MI (zu B2 39 43 1) Y2 0 := ⟨c2, Or.inr ⟨⟨fr B1 B2 m1 c1, ⟨c7.2.2.2, c9.2.2, c8.2.2.1, c8.2.2.2, c8.2.1, c10.2.2.2⟩, ⟨by show (B2 39 3) = 0; omega, by omega, by omega⟩, rfl, c7, c8, c6, c11⟩, Or.inl (by show (B2 39 44) = 0; omega)⟩⟩
      refine pq_of 10 [(170, []), (195, [])] [] ?_
      show ((-2147483648 ≤ (B2 39 10) ∧ (B2 39 10) < 2147483648) ∧ ((B2 39 10) ≠ (0 : Int) → (((0 : Int) = 0 ∨ (0 : Int) = 1) ∧ ((-2147483648 ≤ (0 : Int) ∧ (0 : Int) < 2147483648) ∧ ((0 : Int) ≠ (0 : Int) → pq d 47 195 [some (.inr (.inr (39 : Nat))), none] [] (A, (zu B2 39 43 (0 : Int)), Y2, K, T) (qI Q)) ∧ ((0 : Int) = (0 : Int) → pq d 47 170 [some (.inr (.inr (39 : Nat))), none] [] (A, (zu B2 39 43 (0 : Int)), Y2, K, T) (qI Q))))) ∧ ((B2 39 10) = (0 : Int) → (((1 : Int) = 0 ∨ (1 : Int) = 1) ∧ ((-2147483648 ≤ (1 : Int) ∧ (1 : Int) < 2147483648) ∧ ((1 : Int) ≠ (0 : Int) → pq d 47 195 [some (.inr (.inr (39 : Nat))), none] [] (A, (zu B2 39 43 (1 : Int)), Y2, K, T) (qI Q)) ∧ ((1 : Int) = (0 : Int) → pq d 47 170 [some (.inr (.inr (39 : Nat))), none] [] (A, (zu B2 39 43 (1 : Int)), Y2, K, T) (qI Q))))))
      exact ⟨by omega, fun w => absurd c3 w, fun _ => ⟨by omega, by omega, fun _ => j195 _ Y2 hfin c5, fun w => absurd w (by omega)⟩⟩
  have j33 : ∀ B1, mi B1 → mb B1 → (0 ≤ (B1 39 3) ∧ (B1 39 3) ≤ 3000) → pq d 47 33 [some (.inr (.inr 39)), none] [] (A, B1, Y, K, T) (qI Q) := by
    intro B1 m1 m2 m3
    refine pq_of 55 [(126, [])] [] ?_
    show (((0 : Int) = 0 ∨ (0 : Int) = 1) ∧ (((0 : Int) = 0 ∨ (0 : Int) = 1) ∧ pq d 47 126 [some (.inr (.inr (39 : Nat))), none] [] (A, (zu (zu (zu (zu (zu (zu (zu (zu (zu (zu (zu (zu (zu (zu (zu (zu (zu (zu B1 39 4 (B1 39 3)) 39 3 (0 : Int)) 39 38 (0 : Int)) 39 20 (0 : Int)) 39 19 (0 : Int)) 39 18 (0 : Int)) 39 17 (0 : Int)) 39 16 (0 : Int)) 39 15 (0 : Int)) 39 14 (0 : Int)) 39 13 (0 : Int)) 39 10 (0 : Int)) 39 5 (0 : Int)) 39 11 (-1 : Int)) 39 12 (0 : Int)) 39 37 (0 : Int)) 39 44 (0 : Int)) 39 58 (0 : Int)), Y, K, T) (qI Q)))
    exact ⟨by omega, by omega, j126 _ m1 m2 ⟨rfl, m3, rfl, rfl, rfl, rfl, rfl, rfl, rfl, rfl, rfl, rfl, rfl, rfl, rfl⟩⟩
  have j7 : ∀ (m : Nat) (k : Int) B1, mi B1 → mb B1 → (0 ≤ (B1 39 3) ∧ (B1 39 3) ≤ 3000) → (0 ≤ k ∧ k ≤ 3000) → (B1 39 3) ≤ k + (m : Int) → pq d 47 7 [some (.inr (.inr 39)), some (.inl k)] [] (A, B1, Y, K, T) (qI Q) := by
    intro m
    induction m with
    | zero =>
      intro k B1 m1 m2 m3 hk hm
      refine pq_of 14 [(7, []), (33, [1])] [] ?_
      show ((-2147483648 ≤ k ∧ k < 2147483648) ∧ (-2147483648 ≤ (B1 39 3) ∧ (B1 39 3) < 2147483648) ∧ ((B1 39 3) ≤ k → pq d 47 33 [some (.inr (.inr (39 : Nat))), none] [] (A, B1, Y, K, T) (qI Q)) ∧ (k < (B1 39 3) → ((0 ≤ k ∧ k < (3000 : Int)) ∧ ((0 ≤ k ∧ k < (3000 : Int)) ∧ (0 ≤ (B1 40 (k).toNat) ∧ (B1 40 (k).toNat) < 65536) ∧ pq d 47 7 [some (.inr (.inr (39 : Nat))), some (.inl (k + (1 : Int)))] [] (A, (zu B1 41 (k).toNat (B1 40 (k).toNat)), Y, K, T) (qI Q)))))
      exact ⟨by omega, by omega, fun _ => j33 B1 m1 m2 m3, fun w => absurd w (by omega)⟩
    | succ m ih =>
      intro k B1 m1 m2 m3 hk hm
      refine pq_of 14 [(7, []), (33, [1])] [] ?_
      show ((-2147483648 ≤ k ∧ k < 2147483648) ∧ (-2147483648 ≤ (B1 39 3) ∧ (B1 39 3) < 2147483648) ∧ ((B1 39 3) ≤ k → pq d 47 33 [some (.inr (.inr (39 : Nat))), none] [] (A, B1, Y, K, T) (qI Q)) ∧ (k < (B1 39 3) → ((0 ≤ k ∧ k < (3000 : Int)) ∧ ((0 ≤ k ∧ k < (3000 : Int)) ∧ (0 ≤ (B1 40 (k).toNat) ∧ (B1 40 (k).toNat) < 65536) ∧ pq d 47 7 [some (.inr (.inr (39 : Nat))), some (.inl (k + (1 : Int)))] [] (A, (zu B1 41 (k).toNat (B1 40 (k).toNat)), Y, K, T) (qI Q)))))
      exact ⟨by omega, by omega, fun _ => j33 B1 m1 m2 m3, fun w => ⟨by omega, by omega, m1.1 _, ih _ _ (mi_41 m1 (m1.1 _)) m2 m3 (by omega) (by show (B1 39 3) ≤ _; omega)⟩⟩
  refine pzI_of 5 [(7, [])] [] ?_
  show pq d 47 7 [some (.inr (.inr (39 : Nat))), some (.inl (0 : Int))] [] (A, (zu B 39 0 (0 : Int)), Y, K, T) (qI Q)
  exact j7 3000 0 _ h1 h2 (by show 0 ≤ (B 39 3) ∧ (B 39 3) ≤ 3000; omega) (by omega) (by show (B 39 3) ≤ _; omega)
end MDL
