/-! The model's parser: its small steps -/
/-- the token that stands next -/
def mT (B : zF) : Prop := 0 ≤ (B 39 7) ∧ (B 39 7) ≤ (B 39 5) ∧ (B 39 8) = (B 39 5) ∧ (B 39 5) ≤ (B 39 4) ∧ ((B 39 6) ≠ 12 → (B 39 7) < (B 39 5)) ∧ (-2147483648 ≤ (B 39 6) ∧ (B 39 6) < 2147483648)
def mF (B : zF) : Prop := 0 ≤ (B 39 10) ∧ (B 39 10) ≤ 50000
/-- a task is put on the pile of tasks -/
def mW (B : zF) (n : Nat) (w a b c e : Int) : zF := fun i j => bif Nat.beq i 39 then (bif Nat.beq j 58 then (n : Int) + 1 else B i j) else (bif Nat.beq i 69 then (bif Nat.beq j n then w else B i j) else (bif Nat.beq i 70 then (bif Nat.beq j n then a else B i j) else (bif Nat.beq i 71 then (bif Nat.beq j n then b else B i j) else (bif Nat.beq i 72 then (bif Nat.beq j n then c else B i j) else (bif Nat.beq i 73 then (bif Nat.beq j n then e else B i j) else B i j)))))
theorem mW_ap (B : zF) (n : Nat) (w a b c e : Int) (i j : Nat) : mW B n w a b c e i j = if i = 39 then (if j = 58 then (n : Int) + 1 else B i j) else if i = 69 then (if j = n then w else B i j) else if i = 70 then (if j = n then a else B i j) else if i = 71 then (if j = n then b else B i j) else if i = 72 then (if j = n then c else B i j) else if i = 73 then (if j = n then e else B i j) else B i j := by
  unfold mW
  simp only [beq_if]
theorem mW_1 (B : zF) (n : Nat) (w a b c e : Int) : zu (zu (zu (zu (zu (zu B 69 n w) 70 n a) 71 n b) 72 n c) 73 n e) 39 58 ((n : Int) + 1) = mW B n w a b c e := by
  funext i j
  simp only [zu_ap, mW_ap]
  by_cases h0 : i = 39
  · subst h0; simp
  · by_cases h1 : i = 69
    · subst h1; simp
    · by_cases h2 : i = 70
      · subst h2; simp
      · by_cases h3 : i = 71
        · subst h3; simp
        · by_cases h4 : i = 72
          · subst h4; simp
          · by_cases h5 : i = 73
            · subst h5; simp
            · simp [h0, h1, h2, h3, h4, h5]
def isop (t : Int) : Prop := t = 124 ∨ t = 94 ∨ t = 38 ∨ t = 15677 ∨ t = 8509 ∨ t = 60 ∨ t = 15421 ∨ t = 15420 ∨ t = 15934 ∨ t = 43 ∨ t = 45 ∨ t = 42 ∨ t = 47 ∨ t = 37
section LOW
variable {d : Nat} {A B Y : zF} {K : Nat} {T : zT}
set_option maxRecDepth 100000 in
set_option maxHeartbeats 4000000 in
theorem m_fail {w : Int} {Q : zF → zF → zF → Nat → zT → Prop} (hf : mF B) (q : ∀ x, ((B 39 10) = 0 → x = w + 16 * (B 39 7)) → ((B 39 10) ≠ 0 → x = (B 39 10)) → Q A (zu B 39 10 x) Y K T) : pzV d 9 [.inr (.inr 39), .inl w] (A, B, Y, K, T) Q := by
  obtain ⟨f1, f2⟩ := hf
  refine pzV_of 13 [] [] ?_
  show ((-2147483648 ≤ (B 39 10) ∧ (B 39 10) < 2147483648) ∧ ((B 39 10) ≠ (0 : Int) → Q A (zu B 39 10 (B 39 10)) Y K T) ∧ ((B 39 10) = (0 : Int) → Q A (zu B 39 10 (w + ((16 : Int) * (B 39 7)))) Y K T))
  exact ⟨by omega, fun h => q _ (fun z => absurd z h) (fun _ => rfl), fun h => q _ (fun _ => rfl) (fun z => absurd h z)⟩
set_option maxRecDepth 100000 in
set_option maxHeartbeats 4000000 in
theorem m_meets {t : Int} {Q : Int → zF → zF → zF → Nat → zT → Prop} (hd : 3 ≤ d) (hK : mK B) (hY : mY Y) (hT : mT B) (hf : mF B) (ht : -2147483648 ≤ t ∧ t < 2147483648)
    (q0 : ((B 39 10) = 0 → (B 39 6) ≠ t) → Q 0 A B Y K T)
    (q1 : ∀ a k f Y', (B 39 10) = 0 → (B 39 6) = t → (B 39 5) ≤ f → f ≤ a → a ≤ (B 39 4) → (k ≠ 12 → f < a) → (-2147483648 ≤ k ∧ k < 2147483648) → mY Y' → Q 1 A (mS B a k f a) Y' K T) : pzI d 10 [.inr (.inr 39), .inl t] (A, B, Y, K, T) Q := by
  obtain ⟨f1, f2⟩ := hf
  obtain ⟨t1, t2, t3, t4, t5, t6⟩ := hT
  refine pzI_of 11 [] [] ?_
  show ((-2147483648 ≤ (B 39 10) ∧ (B 39 10) < 2147483648) ∧ ((0 : Int) < (B 39 10) → (((0 : Int) = 0 ∨ (0 : Int) = 1) ∧ Q (0 : Int) A B Y K T)) ∧ ((B 39 10) ≤ (0 : Int) → ((-2147483648 ≤ (B 39 6) ∧ (B 39 6) < 2147483648) ∧ (-2147483648 ≤ t ∧ t < 2147483648) ∧ ((B 39 6) = t → (0 < d ∧ pzV (d - 1) 5 [.inr (.inr (39 : Nat))] (A, B, Y, K, T) (fun Av1 Bv1 Yv1 Kv1 Tv1 => (((1 : Int) = 0 ∨ (1 : Int) = 1) ∧ Q (1 : Int) Av1 Bv1 Yv1 Kv1 Tv1)))) ∧ ((B 39 6) ≠ t → (((0 : Int) = 0 ∨ (0 : Int) = 1) ∧ Q (0 : Int) A B Y K T)))))
  refine ⟨by omega, fun h => ⟨Or.inl rfl, q0 (fun z => by omega)⟩, fun h => ⟨t6, ht, fun h2 => ⟨by omega, m_next (by omega) hK hY (by omega) t4 (fun a k f Y' g1 g2 g3 g4 g5 g6 => ⟨Or.inr rfl, q1 a k f Y' (by omega) h2 g1 g2 g3 g4 g5 g6⟩)⟩, fun h2 => ⟨Or.inl rfl, q0 (fun _ => h2)⟩⟩⟩
set_option maxRecDepth 100000 in
set_option maxHeartbeats 4000000 in
theorem m_must {t : Int} {Q : zF → zF → zF → Nat → zT → Prop} (hd : 4 ≤ d) (hK : mK B) (hY : mY Y) (hT : mT B) (hf : mF B) (ht : -2147483648 ≤ t ∧ t < 2147483648)
    (q0 : ∀ x, 0 < x → x ≤ 50000 → Q A (zu B 39 10 x) Y K T)
    (q1 : ∀ a k f Y', (B 39 10) = 0 → (B 39 6) = t → (B 39 5) ≤ f → f ≤ a → a ≤ (B 39 4) → (k ≠ 12 → f < a) → (-2147483648 ≤ k ∧ k < 2147483648) → mY Y' → Q A (mS B a k f a) Y' K T) : pzV d 11 [.inr (.inr 39), .inl t] (A, B, Y, K, T) Q := by
  have hK' := hK.1
  obtain ⟨t1, t2, t3, t4, t5, t6⟩ := id hT
  have hf' := hf
  obtain ⟨f1, f2⟩ := hf'
  refine pzV_of 8 [] [] ?_
  show (0 < d ∧ pzI (d - 1) 10 [.inr (.inr (39 : Nat)), .inl t] (A, B, Y, K, T) (fun nv1 Av1 Bv1 Yv1 Kv1 Tv1 => ((-2147483648 ≤ nv1 ∧ nv1 < 2147483648) ∧ (nv1 ≠ (0 : Int) → Q Av1 Bv1 Yv1 Kv1 Tv1) ∧ (nv1 = (0 : Int) → (0 < d ∧ pzV (d - 1) 9 [.inr (.inr (39 : Nat)), .inl (1 : Int)] (Av1, Bv1, Yv1, Kv1, Tv1) (fun Av2 Bv2 Yv2 Kv2 Tv2 => Q Av2 Bv2 Yv2 Kv2 Tv2))))))
  refine ⟨by omega, m_meets (by omega) hK hY hT hf ht (fun h => ⟨by omega, fun z => absurd rfl z, fun _ => ⟨by omega, m_fail hf (fun x x1 x2 => q0 x ?_ ?_)⟩⟩) (fun a k f Y' g0 g1 g2 g3 g4 g5 g6 g7 => ⟨by omega, fun _ => q1 a k f Y' g0 g1 g2 g3 g4 g5 g6 g7, fun z => absurd z (by omega)⟩)⟩
  · by_cases e : (B 39 10) = 0
    · rw [x1 e]; omega
    · rw [x2 e]; omega
  · by_cases e : (B 39 10) = 0
    · rw [x1 e]; omega
    · rw [x2 e]; omega
set_option maxRecDepth 100000 in
set_option maxHeartbeats 4000000 in
theorem m_forbid {w p : Int} {Q : zF → zF → zF → Nat → zT → Prop} (hp : -2147483648 ≤ (B 39 11) ∧ (B 39 11) < 2147483648) (hl : -2147483648 ≤ (B 39 12) ∧ (B 39 12) < 2147483648) (hw : -2147483648 ≤ w ∧ w < 2147483648) (hq : -2147483648 ≤ p ∧ p < 2147483648)
    (q : ∀ x y, (-2147483648 ≤ x ∧ x < 2147483648) → (-2147483648 ≤ y ∧ y < 2147483648) → Q A (zu (zu B 39 11 x) 39 12 y) Y K T) : pzV d 12 [.inr (.inr 39), .inl w, .inl p] (A, B, Y, K, T) Q := by
  have e : Q A B Y K T := by
    have := q (B 39 11) (B 39 12) hp hl
    rw [zu_id B 39 11, zu_id B 39 12] at this
    exact this
  have n : Q A (zu (zu B 39 11 p) 39 12 w) Y K T := q p w hq hw
  refine pzV_of 22 [] [] ?_
  show ((-2147483648 ≤ (B 39 11) ∧ (B 39 11) < 2147483648) ∧ ((B 39 11) < (0 : Int) → Q A (zu (zu B 39 11 p) 39 12 w) Y K T) ∧ ((0 : Int) ≤ (B 39 11) → ((-2147483648 ≤ (B 39 11) ∧ (B 39 11) < 2147483648) ∧ (-2147483648 ≤ p ∧ p < 2147483648) ∧ ((B 39 11) < p → Q A B Y K T) ∧ (p ≤ (B 39 11) → ((-2147483648 ≤ (B 39 11) ∧ (B 39 11) < 2147483648) ∧ (-2147483648 ≤ p ∧ p < 2147483648) ∧ ((B 39 11) ≠ p → Q A (zu (zu B 39 11 p) 39 12 w) Y K T) ∧ ((B 39 11) = p → ((-2147483648 ≤ (B 39 12) ∧ (B 39 12) < 2147483648) ∧ (-2147483648 ≤ w ∧ w < 2147483648) ∧ (w ≤ (B 39 12) → Q A (zu (zu B 39 11 p) 39 12 w) Y K T) ∧ ((B 39 12) < w → Q A B Y K T))))))))
  exact ⟨hp, fun _ => n, fun _ => ⟨hp, hq, fun _ => e, fun _ => ⟨hp, hq, fun _ => n, fun _ => ⟨hl, hw, fun _ => n, fun _ => e⟩⟩⟩⟩
set_option maxRecDepth 100000 in
set_option maxHeartbeats 4000000 in
theorem m_same {a n b m : Int} {Q : Int → zF → zF → zF → Nat → zT → Prop} (hK : mK B) (ha : 0 ≤ a) (hn : 0 ≤ n) (han : a + n ≤ 3000) (hb : 0 ≤ b) (hm : 0 ≤ m) (hbm : b + m ≤ 3000) (q : ∀ r, (r = 0 ∨ r = 1) → Q r A B Y K T) : pzI d 13 [.inr (.inr 39), .inl a, .inl n, .inl b, .inl m] (A, B, Y, K, T) Q := by
  obtain ⟨⟨k1, k2⟩, k3⟩ := hK
  have j16 : ∀ (r : Nat) (k s : Int), 0 ≤ k → k + (r : Int) = n → (s = 0 ∨ s = 1) → (n = m ∨ s = 0) → pq d 13 16 [some (.inr (.inr 39)), some (.inl a), some (.inl n), some (.inl b), some (.inl m), some (.inl s), some (.inl k)] [] (A, B, Y, K, T) (qI Q) := by
    intro r
    induction r with
    | zero =>
      intro k s h0 h1 h2 h3
      refine pq_of 5 [(22, [])] [] ?_
      show ((-2147483648 ≤ k ∧ k < 2147483648) ∧ (-2147483648 ≤ n ∧ n < 2147483648) ∧ (n ≤ k → ((s = 0 ∨ s = 1) ∧ Q s A B Y K T)) ∧ (k < n → pq d 13 22 [some (.inr (.inr (39 : Nat))), some (.inl a), some (.inl n), some (.inl b), some (.inl m), some (.inl s), some (.inl k)] [] (A, B, Y, K, T) (qI Q)))
      exact ⟨by omega, by omega, fun _ => ⟨h2, q s h2⟩, fun z => absurd z (by omega)⟩
    | succ r ih =>
      intro k s h0 h1 h2 h3
      refine pq_of 23 [(16, [])] [45] ?_
      show ((-2147483648 ≤ k ∧ k < 2147483648) ∧ (-2147483648 ≤ n ∧ n < 2147483648) ∧ (n ≤ k → ((s = 0 ∨ s = 1) ∧ Q s A B Y K T)) ∧ (k < n → ((-2147483648 ≤ s ∧ s < 2147483648) ∧ (s = (0 : Int) → ((s = 0 ∨ s = 1) ∧ Q s A B Y K T)) ∧ (s ≠ (0 : Int) → ((0 ≤ (a + k) ∧ (a + k) < (3000 : Int)) ∧ ((0 ≤ (b + k) ∧ (b + k) < (3000 : Int)) ∧ (pq d 13 16 [some (.inr (.inr (39 : Nat))), some (.inl a), some (.inl n), some (.inl b), some (.inl m), some (.inl (0 : Int)), some (.inl (k + (1 : Int)))] [] (A, B, Y, K, T) (qI Q) ∧ pq d 13 16 [some (.inr (.inr (39 : Nat))), some (.inl a), some (.inl n), some (.inl b), some (.inl m), some (.inl (1 : Int)), some (.inl (k + (1 : Int)))] [] (A, B, Y, K, T) (qI Q))))))))
      refine ⟨by omega, by omega, fun z => absurd z (by omega), fun z => ⟨by omega, fun z2 => ⟨h2, q s h2⟩, fun z2 => ⟨by omega, by omega, ih _ _ (by omega) (by omega) (Or.inl rfl) (Or.inr rfl), ih _ _ (by omega) (by omega) (Or.inr rfl) (by omega)⟩⟩⟩
  refine pzI_of 8 [(16, [])] [] ?_
  show ((-2147483648 ≤ n ∧ n < 2147483648) ∧ (-2147483648 ≤ m ∧ m < 2147483648) ∧ (n ≠ m → pq d 13 16 [some (.inr (.inr (39 : Nat))), some (.inl a), some (.inl n), some (.inl b), some (.inl m), some (.inl (0 : Int)), some (.inl (0 : Int))] [] (A, B, Y, K, T) (qI Q)) ∧ (n = m → pq d 13 16 [some (.inr (.inr (39 : Nat))), some (.inl a), some (.inl n), some (.inl b), some (.inl m), some (.inl (1 : Int)), some (.inl (0 : Int))] [] (A, B, Y, K, T) (qI Q)))
  exact ⟨by omega, by omega, fun z => j16 n.toNat 0 0 (by omega) (by omega) (Or.inl rfl) (Or.inr rfl), fun z => j16 n.toNat 0 1 (by omega) (by omega) (Or.inr rfl) (Or.inl z)⟩
set_option maxRecDepth 100000 in
set_option maxHeartbeats 4000000 in
theorem m_find_42 {n : Int} {Q : Int → zF → zF → zF → Nat → zT → Prop} (hd : 1 ≤ d) (hK : mK B) (hT : mT B) (h0 : 0 ≤ n) (h1 : n ≤ 40) (hp : ∀ k : Nat, (k : Int) < n → 0 ≤ B 42 k ∧ 0 ≤ B 43 k ∧ B 42 k + B 43 k ≤ 3000) (q : ∀ r, -1 ≤ r → r < n ∨ r = -1 → Q r A B Y K T) : pzI d 14 [.inr (.inr 39), .inr (.inr 42), .inr (.inr 43), .inl n] (A, B, Y, K, T) Q := by
  obtain ⟨t1, t2, t3, t4, t5, t6⟩ := hT
  have hK' := hK.1
  have j6 : ∀ (r : Nat) (k f : Int), 0 ≤ k → k + (r : Int) = n → -1 ≤ f → (f < n ∨ f = -1) → pq d 14 6 [some (.inr (.inr 39)), some (.inr (.inr 42)), some (.inr (.inr 43)), some (.inl n), some (.inl f), some (.inl k)] [] (A, B, Y, K, T) (qI Q) := by
    intro r
    induction r with
    | zero =>
      intro k f h2 h3 h4 h5
      refine pq_of 5 [(12, [])] [] ?_
      show ((-2147483648 ≤ k ∧ k < 2147483648) ∧ (-2147483648 ≤ n ∧ n < 2147483648) ∧ (n ≤ k → Q f A B Y K T) ∧ (k < n → pq d 14 12 [some (.inr (.inr (39 : Nat))), some (.inr (.inr (42 : Nat))), some (.inr (.inr (43 : Nat))), some (.inl n), some (.inl f), some (.inl k)] [] (A, B, Y, K, T) (qI Q)))
      exact ⟨by omega, by omega, fun _ => q f h4 h5, fun z => absurd z (by omega)⟩
    | succ r ih =>
      intro k f h2 h3 h4 h5
      obtain ⟨p1, p2, p3⟩ := hp k.toNat (by omega)
      refine pq_of 24 [(6, [])] [] ?_
      show ((-2147483648 ≤ k ∧ k < 2147483648) ∧ (-2147483648 ≤ n ∧ n < 2147483648) ∧ (n ≤ k → Q f A B Y K T) ∧ (k < n → ((0 ≤ k ∧ k < (40 : Int)) ∧ ((0 ≤ k ∧ k < (40 : Int)) ∧ (0 < d ∧ pzI (d - 1) 13 [.inr (.inr (39 : Nat)), .inl (B 42 (k).toNat), .inl (B 43 (k).toNat), .inl (B 39 7), .inl ((B 39 8) - (B 39 7))] (A, B, Y, K, T) (fun nv1 Av1 Bv1 Yv1 Kv1 Tv1 => ((-2147483648 ≤ nv1 ∧ nv1 < 2147483648) ∧ (nv1 = (0 : Int) → pq d 14 6 [some (.inr (.inr (39 : Nat))), some (.inr (.inr (42 : Nat))), some (.inr (.inr (43 : Nat))), some (.inl n), some (.inl f), some (.inl (k + (1 : Int)))] [] (Av1, Bv1, Yv1, Kv1, Tv1) (qI Q)) ∧ (nv1 ≠ (0 : Int) → pq d 14 6 [some (.inr (.inr (39 : Nat))), some (.inr (.inr (42 : Nat))), some (.inr (.inr (43 : Nat))), some (.inl n), some (.inl k), some (.inl (k + (1 : Int)))] [] (Av1, Bv1, Yv1, Kv1, Tv1) (qI Q)))))))))
      refine ⟨by omega, by omega, fun z => absurd z (by omega), fun z => ⟨by omega, by omega, by omega, m_same hK p1 p2 p3 (by omega) (by omega) (by omega) (fun r2 hr => ⟨by omega, fun z2 => ih _ _ (by omega) (by omega) h4 h5, fun z2 => ih _ _ (by omega) (by omega) (by omega) (by omega)⟩)⟩⟩
  refine pzI_of 4 [(6, [])] [] ?_
  show pq d 14 6 [some (.inr (.inr (39 : Nat))), some (.inr (.inr (42 : Nat))), some (.inr (.inr (43 : Nat))), some (.inl n), some (.inl (-1 : Int)), some (.inl (0 : Int))] [] (A, B, Y, K, T) (qI Q)
  exact j6 n.toNat 0 (-1) (by omega) (by omega) (by omega) (Or.inr rfl)
set_option maxRecDepth 100000 in
set_option maxHeartbeats 4000000 in
theorem m_find_50 {n : Int} {Q : Int → zF → zF → zF → Nat → zT → Prop} (hd : 1 ≤ d) (hK : mK B) (hT : mT B) (h0 : 0 ≤ n) (h1 : n ≤ 12) (hp : ∀ k : Nat, (k : Int) < n → 0 ≤ B 50 k ∧ 0 ≤ B 51 k ∧ B 50 k + B 51 k ≤ 3000) (q : ∀ r, -1 ≤ r → r < n ∨ r = -1 → Q r A B Y K T) : pzI d 14 [.inr (.inr 39), .inr (.inr 50), .inr (.inr 51), .inl n] (A, B, Y, K, T) Q := by
  obtain ⟨t1, t2, t3, t4, t5, t6⟩ := hT
  have hK' := hK.1
  have j6 : ∀ (r : Nat) (k f : Int), 0 ≤ k → k + (r : Int) = n → -1 ≤ f → (f < n ∨ f = -1) → pq d 14 6 [some (.inr (.inr 39)), some (.inr (.inr 50)), some (.inr (.inr 51)), some (.inl n), some (.inl f), some (.inl k)] [] (A, B, Y, K, T) (qI Q) := by
    intro r
    induction r with
    | zero =>
      intro k f h2 h3 h4 h5
      refine pq_of 5 [(12, [])] [] ?_
      show ((-2147483648 ≤ k ∧ k < 2147483648) ∧ (-2147483648 ≤ n ∧ n < 2147483648) ∧ (n ≤ k → Q f A B Y K T) ∧ (k < n → pq d 14 12 [some (.inr (.inr (39 : Nat))), some (.inr (.inr (50 : Nat))), some (.inr (.inr (51 : Nat))), some (.inl n), some (.inl f), some (.inl k)] [] (A, B, Y, K, T) (qI Q)))
      exact ⟨by omega, by omega, fun _ => q f h4 h5, fun z => absurd z (by omega)⟩
    | succ r ih =>
      intro k f h2 h3 h4 h5
      obtain ⟨p1, p2, p3⟩ := hp k.toNat (by omega)
      refine pq_of 24 [(6, [])] [] ?_
      show ((-2147483648 ≤ k ∧ k < 2147483648) ∧ (-2147483648 ≤ n ∧ n < 2147483648) ∧ (n ≤ k → Q f A B Y K T) ∧ (k < n → ((0 ≤ k ∧ k < (12 : Int)) ∧ ((0 ≤ k ∧ k < (12 : Int)) ∧ (0 < d ∧ pzI (d - 1) 13 [.inr (.inr (39 : Nat)), .inl (B 50 (k).toNat), .inl (B 51 (k).toNat), .inl (B 39 7), .inl ((B 39 8) - (B 39 7))] (A, B, Y, K, T) (fun nv1 Av1 Bv1 Yv1 Kv1 Tv1 => ((-2147483648 ≤ nv1 ∧ nv1 < 2147483648) ∧ (nv1 = (0 : Int) → pq d 14 6 [some (.inr (.inr (39 : Nat))), some (.inr (.inr (50 : Nat))), some (.inr (.inr (51 : Nat))), some (.inl n), some (.inl f), some (.inl (k + (1 : Int)))] [] (Av1, Bv1, Yv1, Kv1, Tv1) (qI Q)) ∧ (nv1 ≠ (0 : Int) → pq d 14 6 [some (.inr (.inr (39 : Nat))), some (.inr (.inr (50 : Nat))), some (.inr (.inr (51 : Nat))), some (.inl n), some (.inl k), some (.inl (k + (1 : Int)))] [] (Av1, Bv1, Yv1, Kv1, Tv1) (qI Q)))))))))
      refine ⟨by omega, by omega, fun z => absurd z (by omega), fun z => ⟨by omega, by omega, by omega, m_same hK p1 p2 p3 (by omega) (by omega) (by omega) (fun r2 hr => ⟨by omega, fun z2 => ih _ _ (by omega) (by omega) h4 h5, fun z2 => ih _ _ (by omega) (by omega) (by omega) (by omega)⟩)⟩⟩
  refine pzI_of 4 [(6, [])] [] ?_
  show pq d 14 6 [some (.inr (.inr (39 : Nat))), some (.inr (.inr (50 : Nat))), some (.inr (.inr (51 : Nat))), some (.inl n), some (.inl (-1 : Int)), some (.inl (0 : Int))] [] (A, B, Y, K, T) (qI Q)
  exact j6 n.toNat 0 (-1) (by omega) (by omega) (by omega) (Or.inr rfl)
set_option maxRecDepth 100000 in
set_option maxHeartbeats 4000000 in
theorem m_find_52 {n : Int} {Q : Int → zF → zF → zF → Nat → zT → Prop} (hd : 1 ≤ d) (hK : mK B) (hT : mT B) (h0 : 0 ≤ n) (h1 : n ≤ 6) (hp : ∀ k : Nat, (k : Int) < n → 0 ≤ B 52 k ∧ 0 ≤ B 53 k ∧ B 52 k + B 53 k ≤ 3000) (q : ∀ r, -1 ≤ r → r < n ∨ r = -1 → Q r A B Y K T) : pzI d 14 [.inr (.inr 39), .inr (.inr 52), .inr (.inr 53), .inl n] (A, B, Y, K, T) Q := by
  obtain ⟨t1, t2, t3, t4, t5, t6⟩ := hT
  have hK' := hK.1
  have j6 : ∀ (r : Nat) (k f : Int), 0 ≤ k → k + (r : Int) = n → -1 ≤ f → (f < n ∨ f = -1) → pq d 14 6 [some (.inr (.inr 39)), some (.inr (.inr 52)), some (.inr (.inr 53)), some (.inl n), some (.inl f), some (.inl k)] [] (A, B, Y, K, T) (qI Q) := by
    intro r
    induction r with
    | zero =>
      intro k f h2 h3 h4 h5
      refine pq_of 5 [(12, [])] [] ?_
      show ((-2147483648 ≤ k ∧ k < 2147483648) ∧ (-2147483648 ≤ n ∧ n < 2147483648) ∧ (n ≤ k → Q f A B Y K T) ∧ (k < n → pq d 14 12 [some (.inr (.inr (39 : Nat))), some (.inr (.inr (52 : Nat))), some (.inr (.inr (53 : Nat))), some (.inl n), some (.inl f), some (.inl k)] [] (A, B, Y, K, T) (qI Q)))
      exact ⟨by omega, by omega, fun _ => q f h4 h5, fun z => absurd z (by omega)⟩
    | succ r ih =>
      intro k f h2 h3 h4 h5
      obtain ⟨p1, p2, p3⟩ := hp k.toNat (by omega)
      refine pq_of 24 [(6, [])] [] ?_
      show ((-2147483648 ≤ k ∧ k < 2147483648) ∧ (-2147483648 ≤ n ∧ n < 2147483648) ∧ (n ≤ k → Q f A B Y K T) ∧ (k < n → ((0 ≤ k ∧ k < (6 : Int)) ∧ ((0 ≤ k ∧ k < (6 : Int)) ∧ (0 < d ∧ pzI (d - 1) 13 [.inr (.inr (39 : Nat)), .inl (B 52 (k).toNat), .inl (B 53 (k).toNat), .inl (B 39 7), .inl ((B 39 8) - (B 39 7))] (A, B, Y, K, T) (fun nv1 Av1 Bv1 Yv1 Kv1 Tv1 => ((-2147483648 ≤ nv1 ∧ nv1 < 2147483648) ∧ (nv1 = (0 : Int) → pq d 14 6 [some (.inr (.inr (39 : Nat))), some (.inr (.inr (52 : Nat))), some (.inr (.inr (53 : Nat))), some (.inl n), some (.inl f), some (.inl (k + (1 : Int)))] [] (Av1, Bv1, Yv1, Kv1, Tv1) (qI Q)) ∧ (nv1 ≠ (0 : Int) → pq d 14 6 [some (.inr (.inr (39 : Nat))), some (.inr (.inr (52 : Nat))), some (.inr (.inr (53 : Nat))), some (.inl n), some (.inl k), some (.inl (k + (1 : Int)))] [] (Av1, Bv1, Yv1, Kv1, Tv1) (qI Q)))))))))
      refine ⟨by omega, by omega, fun z => absurd z (by omega), fun z => ⟨by omega, by omega, by omega, m_same hK p1 p2 p3 (by omega) (by omega) (by omega) (fun r2 hr => ⟨by omega, fun z2 => ih _ _ (by omega) (by omega) h4 h5, fun z2 => ih _ _ (by omega) (by omega) (by omega) (by omega)⟩)⟩⟩
  refine pzI_of 4 [(6, [])] [] ?_
  show pq d 14 6 [some (.inr (.inr (39 : Nat))), some (.inr (.inr (52 : Nat))), some (.inr (.inr (53 : Nat))), some (.inl n), some (.inl (-1 : Int)), some (.inl (0 : Int))] [] (A, B, Y, K, T) (qI Q)
  exact j6 n.toNat 0 (-1) (by omega) (by omega) (by omega) (Or.inr rfl)
set_option maxRecDepth 100000 in
set_option maxHeartbeats 4000000 in
theorem m_say {w a b : Int} {Q : zF → zF → zF → Nat → zT → Prop} (h0 : 0 ≤ (B 39 38)) (h1 : (B 39 38) < 12000) (q : Q A (zu (zu (zu (zu B 58 (B 39 38).toNat w) 59 (B 39 38).toNat a) 60 (B 39 38).toNat b) 39 38 ((B 39 38) + 1)) Y K T) : pzV d 15 [.inr (.inr 39), .inl w, .inl a, .inl b] (A, B, Y, K, T) Q := by
  refine pzV_of 25 [] [] ?_
  show ((0 ≤ (B 39 38) ∧ (B 39 38) < (12000 : Int)) ∧ ((0 ≤ (B 39 38) ∧ (B 39 38) < (12000 : Int)) ∧ ((0 ≤ (B 39 38) ∧ (B 39 38) < (12000 : Int)) ∧ Q A (zu (zu (zu (zu B 58 ((B 39 38)).toNat w) 59 ((B 39 38)).toNat a) 60 ((B 39 38)).toNat b) 39 38 ((B 39 38) + (1 : Int))) Y K T)))
  exact ⟨⟨h0, h1⟩, ⟨h0, h1⟩, ⟨h0, h1⟩, q⟩
set_option maxRecDepth 100000 in
set_option maxHeartbeats 4000000 in
theorem m_deeper {Q : zF → zF → zF → Nat → zT → Prop} (hd : 1 ≤ d) (hf : mF B) (hfr : 0 ≤ (B 39 7) ∧ (B 39 7) ≤ 3000) (ho : -2147483648 ≤ (B 39 20) ∧ (B 39 20) < 2147483647)
    (q0 : ∀ x, 0 < x → x ≤ 50000 → (B 39 20) = 10 → Q A (zu (zu B 39 10 x) 39 20 ((B 39 20) + 1)) Y K T) (q1 : (B 39 20) ≠ 10 → Q A (zu B 39 20 ((B 39 20) + 1)) Y K T) : pzV d 16 [.inr (.inr 39)] (A, B, Y, K, T) Q := by
  have hf' := hf
  obtain ⟨f1, f2⟩ := hf'
  refine pzV_of 14 [] [] ?_
  show ((-2147483648 ≤ (B 39 20) ∧ (B 39 20) < 2147483648) ∧ (-2147483648 ≤ (10 : Int) ∧ (10 : Int) < 2147483648) ∧ ((B 39 20) ≠ (10 : Int) → Q A (zu B 39 20 ((B 39 20) + (1 : Int))) Y K T) ∧ ((B 39 20) = (10 : Int) → (0 < d ∧ pzV (d - 1) 9 [.inr (.inr (39 : Nat)), .inl (4 : Int)] (A, B, Y, K, T) (fun Av1 Bv1 Yv1 Kv1 Tv1 => Q Av1 (zu Bv1 39 20 ((Bv1 39 20) + (1 : Int))) Yv1 Kv1 Tv1))))
  refine ⟨by omega, by omega, fun h => q1 h, fun h => ⟨by omega, m_fail hf (fun x x1 x2 => q0 x ?_ ?_ h)⟩⟩
  · by_cases e : (B 39 10) = 0
    · rw [x1 e]; omega
    · rw [x2 e]; omega
  · by_cases e : (B 39 10) = 0
    · rw [x1 e]; omega
    · rw [x2 e]; omega
set_option maxRecDepth 100000 in
set_option maxHeartbeats 4000000 in
theorem m_label0 {Q : zF → zF → zF → Nat → zT → Prop} (hd : 3 ≤ d) (hK : mK B) (hY : mY Y) (hT : mT B) (hf : mF B)
    (q0 : ∀ s x, (s = 0 ∨ s = 1) → 0 < x → x ≤ 50000 → Q A (zu (zu B 39 42 s) 39 10 x) Y K T)
    (q1 : ∀ s a k f Y', (s = 0 ∨ s = 1) → (B 39 10) = 0 → ((B 39 6) = 4 ∨ (B 39 6) = 5) → (B 39 5) ≤ f → f ≤ a → a ≤ (B 39 4) → (k ≠ 12 → f < a) → (-2147483648 ≤ k ∧ k < 2147483648) → mY Y' → Q A (mS (zu B 39 42 s) a k f a) Y' K T) : pzV d 17 [.inr (.inr 39)] (A, B, Y, K, T) Q := by
  have hK' := hK.1
  obtain ⟨t1, t2, t3, t4, t5, t6⟩ := id hT
  have hf' := hf
  obtain ⟨f1, f2⟩ := hf'
  have j38 : ∀ s, (s = 0 ∨ s = 1) → ((B 39 6) = 4 ∨ (B 39 6) = 5) → pq d 17 38 [some (.inr (.inr 39))] [] (A, zu B 39 42 s, Y, K, T) (qV Q) := by
    intro s hs h
    refine pq_of 6 [] [] ?_
    show ((-2147483648 ≤ (B 39 10) ∧ (B 39 10) < 2147483648) ∧ ((B 39 10) ≠ (0 : Int) → Q A (zu B 39 42 s) Y K T) ∧ ((B 39 10) = (0 : Int) → (0 < d ∧ pzV (d - 1) 5 [.inr (.inr (39 : Nat))] (A, (zu B 39 42 s), Y, K, T) (fun Av1 Bv1 Yv1 Kv1 Tv1 => Q Av1 Bv1 Yv1 Kv1 Tv1))))
    refine ⟨by omega, fun z => ?_, fun z => ⟨by omega, m_next (B := zu B 39 42 s) (by omega) hK hY (by show 0 ≤ (B 39 5); omega) t4 (fun a k f Y' g1 g2 g3 g4 g5 g6 => q1 s a k f Y' hs z h g1 g2 g3 g4 g5 g6)⟩⟩
    have this : Q A (zu (zu B 39 42 s) 39 10 ((zu B 39 42 s) 39 10)) Y K T := q0 s (B 39 10) hs (by omega) f2
    rw [zu_id (zu B 39 42 s) 39 10] at this
    exact this
  have j33 : ∀ s, (s = 0 ∨ s = 1) → pq d 17 33 [some (.inr (.inr 39))] [] (A, zu B 39 42 s, Y, K, T) (qV Q) := by
    intro s hs
    refine pq_of 9 [] [] ?_
    show (0 < d ∧ pzV (d - 1) 9 [.inr (.inr (39 : Nat)), .inl (1 : Int)] (A, (zu B 39 42 s), Y, K, T) (fun Av1 Bv1 Yv1 Kv1 Tv1 => ((-2147483648 ≤ (Bv1 39 10) ∧ (Bv1 39 10) < 2147483648) ∧ ((Bv1 39 10) ≠ (0 : Int) → Q Av1 Bv1 Yv1 Kv1 Tv1) ∧ ((Bv1 39 10) = (0 : Int) → (0 < d ∧ pzV (d - 1) 5 [.inr (.inr (39 : Nat))] (Av1, Bv1, Yv1, Kv1, Tv1) (fun Av2 Bv2 Yv2 Kv2 Tv2 => Q Av2 Bv2 Yv2 Kv2 Tv2))))))
    refine ⟨by omega, m_fail (B := zu B 39 42 s) hf (fun x x1 x2 => ?_)⟩
    have hx : 0 < x ∧ x ≤ 50000 := by
      by_cases e : (B 39 10) = 0
      · rw [x1 e]
        show 0 < 1 + 16 * (B 39 7) ∧ 1 + 16 * (B 39 7) ≤ 50000
        omega
      · rw [x2 e]
        show 0 < (B 39 10) ∧ (B 39 10) ≤ 50000
        omega
    exact ⟨show -2147483648 ≤ x ∧ x < 2147483648 by omega, fun _ => q0 s x hs hx.1 hx.2, fun z => absurd z (show x ≠ 0 by omega)⟩
  have j14 : ∀ s, (s = 0 ∨ s = 1) → pq d 17 14 [some (.inr (.inr 39))] [.inl s, .inr (.inr 39)] (A, B, Y, K, T) (qV Q) := by
    intro s hs
    refine pq_of 9 [(33, []), (38, [])] [] ?_
    show ((s = 0 ∨ s = 1) ∧ ((-2147483648 ≤ (B 39 6) ∧ (B 39 6) < 2147483648) ∧ (-2147483648 ≤ (4 : Int) ∧ (4 : Int) < 2147483648) ∧ ((B 39 6) = (4 : Int) → pq d 17 38 [some (.inr (.inr (39 : Nat)))] [] (A, (zu B 39 42 s), Y, K, T) (qV Q)) ∧ ((B 39 6) ≠ (4 : Int) → ((-2147483648 ≤ (B 39 6) ∧ (B 39 6) < 2147483648) ∧ (-2147483648 ≤ (5 : Int) ∧ (5 : Int) < 2147483648) ∧ ((B 39 6) = (5 : Int) → pq d 17 38 [some (.inr (.inr (39 : Nat)))] [] (A, (zu B 39 42 s), Y, K, T) (qV Q)) ∧ ((B 39 6) ≠ (5 : Int) → pq d 17 33 [some (.inr (.inr (39 : Nat)))] [] (A, (zu B 39 42 s), Y, K, T) (qV Q))))))
    exact ⟨hs, by omega, by omega, fun h => j38 s hs (Or.inl h), fun _ => ⟨by omega, by omega, fun h => j38 s hs (Or.inr h), fun _ => j33 s hs⟩⟩
  refine pzV_of 7 [(14, [])] [] ?_
  show ((-2147483648 ≤ (B 39 6) ∧ (B 39 6) < 2147483648) ∧ (-2147483648 ≤ (5 : Int) ∧ (5 : Int) < 2147483648) ∧ ((B 39 6) ≠ (5 : Int) → pq d 17 14 [some (.inr (.inr (39 : Nat)))] [.inl (0 : Int), .inr (.inr (39 : Nat))] (A, B, Y, K, T) (qV Q)) ∧ ((B 39 6) = (5 : Int) → pq d 17 14 [some (.inr (.inr (39 : Nat)))] [.inl (1 : Int), .inr (.inr (39 : Nat))] (A, B, Y, K, T) (qV Q)))
  exact ⟨by omega, by omega, fun _ => j14 0 (Or.inl rfl), fun _ => j14 1 (Or.inr rfl)⟩
set_option maxRecDepth 100000 in
set_option maxHeartbeats 4000000 in
theorem m_wait {w a b c e : Int} {n : Nat} {Q : zF → zF → zF → Nat → zT → Prop} (hn : (B 39 58) = (n : Int)) (h1 : n < 2000) (q : Q A (mW B n w a b c e) Y K T) : pzV d 20 [.inr (.inr 39), .inl w, .inl a, .inl b, .inl c, .inl e] (A, B, Y, K, T) Q := by
  refine pzV_of 37 [] [] ?_
  show ((0 ≤ (B 39 58) ∧ (B 39 58) < (2000 : Int)) ∧ ((0 ≤ (B 39 58) ∧ (B 39 58) < (2000 : Int)) ∧ ((0 ≤ (B 39 58) ∧ (B 39 58) < (2000 : Int)) ∧ ((0 ≤ (B 39 58) ∧ (B 39 58) < (2000 : Int)) ∧ ((0 ≤ (B 39 58) ∧ (B 39 58) < (2000 : Int)) ∧ Q A (zu (zu (zu (zu (zu (zu B 69 ((B 39 58)).toNat w) 70 ((B 39 58)).toNat a) 71 ((B 39 58)).toNat b) 72 ((B 39 58)).toNat c) 73 ((B 39 58)).toNat e) 39 58 ((B 39 58) + (1 : Int))) Y K T)))))
  have hb : 0 ≤ (B 39 58) ∧ (B 39 58) < 2000 := by omega
  refine ⟨hb, hb, hb, hb, hb, ?_⟩
  rw [hn]
  show Q A (zu (zu (zu (zu (zu (zu B 69 n w) 70 n a) 71 n b) 72 n c) 73 n e) 39 58 ((n : Int) + 1)) Y K T
  rw [mW_1]
  exact q
set_option maxRecDepth 100000 in
set_option maxHeartbeats 4000000 in
theorem m_plain {w : Int} {n : Nat} {Q : zF → zF → zF → Nat → zT → Prop} (hd : 1 ≤ d) (hn : (B 39 58) = (n : Int)) (h1 : n < 2000) (q : Q A (mW B n w 0 0 0 0) Y K T) : pzV d 21 [.inr (.inr 39), .inl w] (A, B, Y, K, T) Q := by
  refine pzV_of 8 [] [] ?_
  show (0 < d ∧ pzV (d - 1) 20 [.inr (.inr (39 : Nat)), .inl w, .inl (0 : Int), .inl (0 : Int), .inl (0 : Int), .inl (0 : Int)] (A, B, Y, K, T) (fun Av1 Bv1 Yv1 Kv1 Tv1 => Q Av1 Bv1 Yv1 Kv1 Tv1))
  exact ⟨by omega, m_wait hn h1 q⟩
set_option maxRecDepth 100000 in
set_option maxHeartbeats 4000000 in
theorem m_begins {Q : Int → zF → zF → zF → Nat → zT → Prop} (hT : mT B) (q : ∀ n, (n = 0 ∨ n = 1) → (n = 1 ↔ ((B 39 6) = 3 ∨ (B 39 6) = 8 ∨ (B 39 6) = 10 ∨ (B 39 6) = 11)) → Q n A B Y K T) : pzI d 28 [.inr (.inr 39)] (A, B, Y, K, T) Q := by
  obtain ⟨t1, t2, t3, t4, t5, t6⟩ := hT
  have y : ((B 39 6) = 3 ∨ (B 39 6) = 8 ∨ (B 39 6) = 10 ∨ (B 39 6) = 11) → ((1 : Int) = 0 ∨ (1 : Int) = 1) ∧ Q 1 A B Y K T := fun h => ⟨Or.inr rfl, q 1 (Or.inr rfl) (by omega)⟩
  refine pzI_of 19 [] [] ?_
  show ((-2147483648 ≤ (B 39 6) ∧ (B 39 6) < 2147483648) ∧ (-2147483648 ≤ (3 : Int) ∧ (3 : Int) < 2147483648) ∧ ((B 39 6) = (3 : Int) → (((1 : Int) = 0 ∨ (1 : Int) = 1) ∧ Q (1 : Int) A B Y K T)) ∧ ((B 39 6) ≠ (3 : Int) → ((-2147483648 ≤ (B 39 6) ∧ (B 39 6) < 2147483648) ∧ (-2147483648 ≤ (8 : Int) ∧ (8 : Int) < 2147483648) ∧ ((B 39 6) = (8 : Int) → (((1 : Int) = 0 ∨ (1 : Int) = 1) ∧ Q (1 : Int) A B Y K T)) ∧ ((B 39 6) ≠ (8 : Int) → ((-2147483648 ≤ (B 39 6) ∧ (B 39 6) < 2147483648) ∧ (-2147483648 ≤ (10 : Int) ∧ (10 : Int) < 2147483648) ∧ ((B 39 6) = (10 : Int) → (((1 : Int) = 0 ∨ (1 : Int) = 1) ∧ Q (1 : Int) A B Y K T)) ∧ ((B 39 6) ≠ (10 : Int) → ((-2147483648 ≤ (B 39 6) ∧ (B 39 6) < 2147483648) ∧ (-2147483648 ≤ (11 : Int) ∧ (11 : Int) < 2147483648) ∧ ((B 39 6) ≠ (11 : Int) → (((0 : Int) = 0 ∨ (0 : Int) = 1) ∧ Q (0 : Int) A B Y K T)) ∧ ((B 39 6) = (11 : Int) → (((1 : Int) = 0 ∨ (1 : Int) = 1) ∧ Q (1 : Int) A B Y K T)))))))))
  refine ⟨t6, by omega, fun h => y (by omega), fun h => ⟨t6, by omega, fun h2 => y (by omega), fun h2 => ⟨t6, by omega, fun h3 => y (by omega), fun h3 => ⟨t6, by omega, fun h4 => ⟨Or.inl rfl, q 0 (Or.inl rfl) (by omega)⟩, fun h4 => y (by omega)⟩⟩⟩⟩
set_option maxRecDepth 100000 in
set_option maxHeartbeats 4000000 in
theorem m_ahead {Q : Int → zF → zF → zF → Nat → zT → Prop} (hd : 1 ≤ d) (hK : mK B) (h0 : 0 ≤ (B 39 5)) (h1 : (B 39 5) ≤ (B 39 4)) (q : ∀ c, (0 ≤ c ∧ c < 65536) → Q c A B Y K T) : pzI d 34 [.inr (.inr 39)] (A, B, Y, K, T) Q := by
  obtain ⟨⟨k1, k2⟩, k3⟩ := id hK
  have j90 : ∀ k, 0 ≤ k → k ≤ 3000 → pq d 34 90 [some (.inr (.inr 39)), none, some (.inl k)] [] (A, B, Y, K, T) (qI Q) := by
    intro k g1 g2
    refine pq_of 4 [] [] ?_
    show (0 < d ∧ pzI (d - 1) 4 [.inr (.inr (39 : Nat)), .inl k] (A, B, Y, K, T) (fun nv1 Av1 Bv1 Yv1 Kv1 Tv1 => Q nv1 Av1 Bv1 Yv1 Kv1 Tv1))
    exact ⟨by omega, m_charAt hK g1 (by omega) (fun c c1 c2 c3 c4 => q c ⟨c1, c2⟩)⟩
  have j7 : ∀ (r : Nat) (k b : Int), 0 ≤ k → k + (r : Int) = (B 39 4) → (-2147483648 ≤ b ∧ b < 2147483648) → pq d 34 7 [some (.inr (.inr 39)), some (.inl b), some (.inl k)] [] (A, B, Y, K, T) (qI Q) := by
    intro r
    induction r with
    | zero =>
      intro k b g1 g2 g3
      refine pq_of 4 [(15, []), (90, [1])] [] ?_
      show ((-2147483648 ≤ k ∧ k < 2147483648) ∧ (-2147483648 ≤ (B 39 4) ∧ (B 39 4) < 2147483648) ∧ ((B 39 4) ≤ k → pq d 34 90 [some (.inr (.inr (39 : Nat))), none, some (.inl k)] [] (A, B, Y, K, T) (qI Q)) ∧ (k < (B 39 4) → pq d 34 15 [some (.inr (.inr (39 : Nat))), some (.inl b), some (.inl k)] [] (A, B, Y, K, T) (qI Q)))
      exact ⟨by omega, by omega, fun _ => j90 k (by omega) (by omega), fun z => absurd z (by omega)⟩
    | succ r ih =>
      intro k b g1 g2 g3
      have e90 := j90 k (by omega) (by omega)
      have j52 : pq d 34 52 [some (.inr (.inr 39)), some (.inl b), some (.inl k)] [] (A, B, Y, K, T) (qI Q) := by
        have e0 := ih (k + 1) 0 (by omega) (by omega) (by omega)
        have e1 := ih (k + 1) 1 (by omega) (by omega) (by omega)
        refine pq_of 19 [(7, [])] [60, 64, 75] ?_
        show ((0 ≤ k ∧ k < (3000 : Int)) ∧ (pq d 34 7 [some (.inr (.inr (39 : Nat))), some (.inl (0 : Int)), some (.inl (k + (1 : Int)))] [] (A, B, Y, K, T) (qI Q) ∧ (pq d 34 7 [some (.inr (.inr (39 : Nat))), some (.inl (1 : Int)), some (.inl (k + (1 : Int)))] [] (A, B, Y, K, T) (qI Q) ∧ ((0 ≤ k ∧ k < (3000 : Int)) ∧ (pq d 34 7 [some (.inr (.inr (39 : Nat))), some (.inl (0 : Int)), some (.inl (k + (1 : Int)))] [] (A, B, Y, K, T) (qI Q) ∧ pq d 34 7 [some (.inr (.inr (39 : Nat))), some (.inl (1 : Int)), some (.inl (k + (1 : Int)))] [] (A, B, Y, K, T) (qI Q))))))
        exact ⟨by omega, e0, e1, by omega, e0, e1⟩
      refine pq_of 24 [(52, []), (90, [1])] [16, 27, 38, 49] ?_
      show ((-2147483648 ≤ k ∧ k < 2147483648) ∧ (-2147483648 ≤ (B 39 4) ∧ (B 39 4) < 2147483648) ∧ ((B 39 4) ≤ k → pq d 34 90 [some (.inr (.inr (39 : Nat))), none, some (.inl k)] [] (A, B, Y, K, T) (qI Q)) ∧ (k < (B 39 4) → (pq d 34 52 [some (.inr (.inr (39 : Nat))), some (.inl b), some (.inl k)] [] (A, B, Y, K, T) (qI Q) ∧ ((0 ≤ k ∧ k < (3000 : Int)) ∧ (pq d 34 52 [some (.inr (.inr (39 : Nat))), some (.inl b), some (.inl k)] [] (A, B, Y, K, T) (qI Q) ∧ ((0 ≤ k ∧ k < (3000 : Int)) ∧ (pq d 34 52 [some (.inr (.inr (39 : Nat))), some (.inl b), some (.inl k)] [] (A, B, Y, K, T) (qI Q) ∧ ((0 ≤ k ∧ k < (3000 : Int)) ∧ (pq d 34 90 [some (.inr (.inr (39 : Nat))), none, some (.inl k)] [] (A, B, Y, K, T) (qI Q) ∧ pq d 34 52 [some (.inr (.inr (39 : Nat))), some (.inl b), some (.inl k)] [] (A, B, Y, K, T) (qI Q))))))))))
      exact ⟨by omega, by omega, fun _ => e90, fun z => ⟨j52, by omega, j52, by omega, j52, by omega, e90, j52⟩⟩
  refine pzI_of 5 [(7, [])] [] ?_
  show pq d 34 7 [some (.inr (.inr (39 : Nat))), some (.inl (0 : Int)), some (.inl (B 39 5))] [] (A, B, Y, K, T) (qI Q)
  exact j7 ((B 39 4) - (B 39 5)).toNat (B 39 5) 0 h0 (by omega) (by omega)
set_option maxRecDepth 100000 in
set_option maxHeartbeats 4000000 in
theorem m_levelOf {t : Int} {Q : Int → zF → zF → zF → Nat → zT → Prop} (ht : -2147483648 ≤ t ∧ t < 2147483648) (q : ∀ l, (l = 9 ∨ ((0 ≤ l ∧ l ≤ 7) ∧ isop t)) → Q l A B Y K T) : pzI d 40 [.inl t] (A, B, Y, K, T) Q := by
  refine pzI_of 4 [] [] ?_
  show ((-2147483648 ≤ t ∧ t < 2147483648) ∧ ((t = (37 : Int) → Q (7 : Int) A B Y K T) ∧ (t = (38 : Int) → Q (2 : Int) A B Y K T) ∧ (t = (42 : Int) → Q (7 : Int) A B Y K T) ∧ (t = (43 : Int) → Q (6 : Int) A B Y K T) ∧ (t = (45 : Int) → Q (6 : Int) A B Y K T) ∧ (t = (47 : Int) → Q (7 : Int) A B Y K T) ∧ (t = (60 : Int) → Q (4 : Int) A B Y K T) ∧ (t = (94 : Int) → Q (1 : Int) A B Y K T) ∧ (t = (124 : Int) → Q (0 : Int) A B Y K T) ∧ (t = (8509 : Int) → Q (3 : Int) A B Y K T) ∧ (t = (15420 : Int) → Q (5 : Int) A B Y K T) ∧ (t = (15421 : Int) → Q (4 : Int) A B Y K T) ∧ (t = (15677 : Int) → Q (3 : Int) A B Y K T) ∧ (t = (15934 : Int) → Q (5 : Int) A B Y K T) ∧ True) ∧ ((t ≠ (37 : Int) ∧ t ≠ (38 : Int) ∧ t ≠ (42 : Int) ∧ t ≠ (43 : Int) ∧ t ≠ (45 : Int) ∧ t ≠ (47 : Int) ∧ t ≠ (60 : Int) ∧ t ≠ (94 : Int) ∧ t ≠ (124 : Int) ∧ t ≠ (8509 : Int) ∧ t ≠ (15420 : Int) ∧ t ≠ (15421 : Int) ∧ t ≠ (15677 : Int) ∧ t ≠ (15934 : Int) ∧ True) → Q (9 : Int) A B Y K T))
  refine ⟨ht, ⟨fun h => q _ (Or.inr ⟨by omega, by unfold isop; omega⟩), fun h => q _ (Or.inr ⟨by omega, by unfold isop; omega⟩), fun h => q _ (Or.inr ⟨by omega, by unfold isop; omega⟩), fun h => q _ (Or.inr ⟨by omega, by unfold isop; omega⟩), fun h => q _ (Or.inr ⟨by omega, by unfold isop; omega⟩), fun h => q _ (Or.inr ⟨by omega, by unfold isop; omega⟩), fun h => q _ (Or.inr ⟨by omega, by unfold isop; omega⟩), fun h => q _ (Or.inr ⟨by omega, by unfold isop; omega⟩), fun h => q _ (Or.inr ⟨by omega, by unfold isop; omega⟩), fun h => q _ (Or.inr ⟨by omega, by unfold isop; omega⟩), fun h => q _ (Or.inr ⟨by omega, by unfold isop; omega⟩), fun h => q _ (Or.inr ⟨by omega, by unfold isop; omega⟩), fun h => q _ (Or.inr ⟨by omega, by unfold isop; omega⟩), fun h => q _ (Or.inr ⟨by omega, by unfold isop; omega⟩), trivial⟩, fun h => q _ (Or.inl rfl)⟩
end LOW
