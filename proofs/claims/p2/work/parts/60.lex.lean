/-! The model's lexer -/
theorem zu_zu (f : zF) (a k : Nat) (v w : Int) : zu (zu f a k v) a k w = zu f a k w := by
  funext i j
  simp only [zu_ap]
  split <;> rfl

theorem zu_id (f : zF) (a k : Nat) : zu f a k (f a k) = f := by
  funext i j
  rw [zu_ap]
  split
  · rename_i h; rw [h.1, h.2]
  · rfl
def mK (B : zF) : Prop := (0 ≤ (B 39 4) ∧ (B 39 4) ≤ 3000) ∧ ∀ j, 0 ≤ (B 41) j ∧ (B 41) j < 65536
/-- the lexer's state: place, token, its beginning and end -/
def mS (B : zF) (a t f e : Int) : zF := fun i j => bif Nat.beq i 39 then (bif Nat.beq j 5 then a else (bif Nat.beq j 6 then t else (bif Nat.beq j 7 then f else (bif Nat.beq j 8 then e else B i j)))) else B i j
theorem beq_if {α : Type} (i k : Nat) (x y : α) : (bif Nat.beq i k then x else y) = if i = k then x else y := by
  by_cases h : i = k
  · subst h; rw [Nat.beq_refl, if_pos rfl]; rfl
  · rw [pg_nb (fun z => h z.symm), if_neg h]; rfl
theorem mS_ap (B : zF) (a t f e : Int) (i j : Nat) : mS B a t f e i j = if i = 39 then (if j = 5 then a else if j = 6 then t else if j = 7 then f else if j = 8 then e else B i j) else B i j := by
  unfold mS
  simp only [beq_if]
theorem mS_1 (B : zF) (a t f e : Int) : zu (zu (zu (zu B 39 7 f) 39 5 a) 39 6 t) 39 8 e = mS B a t f e := by
  funext i j
  simp only [zu_ap, mS_ap]
  by_cases h0 : i = 39
  · subst h0
    by_cases h1 : j = 5
    · subst h1; simp
    · by_cases h2 : j = 6
      · subst h2; simp
      · by_cases h3 : j = 7
        · subst h3; simp
        · by_cases h4 : j = 8
          · subst h4; simp
          · simp [h1, h2, h3, h4]
  · simp [h0]
theorem mS_2 (B : zF) (t f e : Int) : zu (zu (zu B 39 7 f) 39 6 t) 39 8 e = mS B (B 39 5) t f e := by
  funext i j
  simp only [zu_ap, mS_ap]
  by_cases h0 : i = 39
  · subst h0
    by_cases h1 : j = 5
    · subst h1; simp
    · by_cases h2 : j = 6
      · subst h2; simp
      · by_cases h3 : j = 7
        · subst h3; simp
        · by_cases h4 : j = 8
          · subst h4; simp
          · simp [h1, h2, h3, h4]
  · simp [h0]
theorem mS_3 (B : zF) (x a t f e : Int) : mS (zu B 39 5 x) a t f e = mS B a t f e := by
  funext i j
  simp only [zu_ap, mS_ap]
  by_cases h0 : i = 39
  · subst h0
    by_cases h1 : j = 5
    · subst h1; simp
    · simp [h1]
  · simp [h0]
theorem mS_4 (B : zF) (a t f e a' t' f' e' : Int) : mS (mS B a t f e) a' t' f' e' = mS B a' t' f' e' := by
  funext i j
  simp only [mS_ap]
  by_cases h0 : i = 39
  · subst h0
    by_cases h1 : j = 5
    · subst h1; simp
    · by_cases h2 : j = 6
      · subst h2; simp
      · by_cases h3 : j = 7
        · subst h3; simp
        · by_cases h4 : j = 8
          · subst h4; simp
          · simp [h1, h2, h3, h4]
  · simp [h0]
/-- the number that was read fits a long -/
def mY (Y : zF) : Prop := -9223372036854775808 ≤ Y 39 9 ∧ Y 39 9 < 9223372036854775808
section LEX
variable {d : Nat} {A B Y : zF} {K : Nat} {T : zT}
set_option maxRecDepth 100000 in
set_option maxHeartbeats 1000000 in
theorem m_isDigit {c : Int} {Q : Int → zF → zF → zF → Nat → zT → Prop} (hc : -2147483648 ≤ c ∧ c < 2147483648) (q : ∀ n, n = 0 ∨ n = 1 → (n = 1 ↔ (48 ≤ c ∧ c ≤ 57)) → Q n A B Y K T) : pzI d 3 [.inl c] (A, B, Y, K, T) Q := by
  refine pzI_of 9 [] [] ?_
  show ((-2147483648 ≤ c ∧ c < 2147483648) ∧ (-2147483648 ≤ (48 : Int) ∧ (48 : Int) < 2147483648) ∧ (c < (48 : Int) → (((0 : Int) = 0 ∨ (0 : Int) = 1) ∧ Q (0 : Int) A B Y K T)) ∧ ((48 : Int) ≤ c → ((-2147483648 ≤ c ∧ c < 2147483648) ∧ (-2147483648 ≤ (57 : Int) ∧ (57 : Int) < 2147483648) ∧ ((57 : Int) < c → (((0 : Int) = 0 ∨ (0 : Int) = 1) ∧ Q (0 : Int) A B Y K T)) ∧ (c ≤ (57 : Int) → (((1 : Int) = 0 ∨ (1 : Int) = 1) ∧ Q (1 : Int) A B Y K T)))))
  refine ⟨hc, by omega, fun h => ?_, fun h => ⟨hc, by omega, fun h2 => ?_, fun h2 => ?_⟩⟩
  · exact ⟨Or.inl rfl, q 0 (Or.inl rfl) (by omega)⟩
  · exact ⟨Or.inl rfl, q 0 (Or.inl rfl) (by omega)⟩
  · exact ⟨Or.inr rfl, q 1 (Or.inr rfl) (by omega)⟩
set_option maxRecDepth 100000 in
set_option maxHeartbeats 1000000 in
theorem m_isLetter {c : Int} {Q : Int → zF → zF → zF → Nat → zT → Prop} (hc : -2147483648 ≤ c ∧ c < 2147483648) (q : ∀ n, n = 0 ∨ n = 1 → (n = 1 ↔ ((97 ≤ c ∧ c ≤ 122) ∨ (65 ≤ c ∧ c ≤ 90) ∨ c = 95)) → Q n A B Y K T) : pzI d 2 [.inl c] (A, B, Y, K, T) Q := by
  have j30 : ((97 ≤ c ∧ c ≤ 122) ∨ (65 ≤ c ∧ c ≤ 90) ∨ c = 95) → pq d 2 30 [none] [] (A, B, Y, K, T) (qI Q) := fun hh => by
    refine pq_of 3 [] [] ?_
    show (((1 : Int) = 0 ∨ (1 : Int) = 1) ∧ Q (1 : Int) A B Y K T)
    exact ⟨Or.inr rfl, q 1 (Or.inr rfl) (by omega)⟩
  have j12 : ¬ (97 ≤ c ∧ c ≤ 122) → pq d 2 12 [some (.inl c)] [] (A, B, Y, K, T) (qI Q) := fun hh => by
    refine pq_of 11 [(30, [0])] [] ?_
    show ((-2147483648 ≤ c ∧ c < 2147483648) ∧ (-2147483648 ≤ (65 : Int) ∧ (65 : Int) < 2147483648) ∧ (c < (65 : Int) → ((-2147483648 ≤ c ∧ c < 2147483648) ∧ (-2147483648 ≤ (95 : Int) ∧ (95 : Int) < 2147483648) ∧ (c ≠ (95 : Int) → (((0 : Int) = 0 ∨ (0 : Int) = 1) ∧ Q (0 : Int) A B Y K T)) ∧ (c = (95 : Int) → pq d 2 30 [none] [] (A, B, Y, K, T) (qI Q)))) ∧ ((65 : Int) ≤ c → ((-2147483648 ≤ c ∧ c < 2147483648) ∧ (-2147483648 ≤ (90 : Int) ∧ (90 : Int) < 2147483648) ∧ (c ≤ (90 : Int) → pq d 2 30 [none] [] (A, B, Y, K, T) (qI Q)) ∧ ((90 : Int) < c → ((-2147483648 ≤ c ∧ c < 2147483648) ∧ (-2147483648 ≤ (95 : Int) ∧ (95 : Int) < 2147483648) ∧ (c ≠ (95 : Int) → (((0 : Int) = 0 ∨ (0 : Int) = 1) ∧ Q (0 : Int) A B Y K T)) ∧ (c = (95 : Int) → pq d 2 30 [none] [] (A, B, Y, K, T) (qI Q)))))))
    refine ⟨hc, by omega, fun h1 => ⟨hc, by omega, fun h2 => ?_, fun h2 => ?_⟩, fun h1 => ⟨hc, by omega, fun h2 => ?_, fun h2 => ⟨hc, by omega, fun h3 => ?_, fun h3 => ?_⟩⟩⟩
    · exact ⟨Or.inl rfl, q 0 (Or.inl rfl) (by omega)⟩
    · exact j30 (by omega)
    · exact j30 (by omega)
    · exact ⟨Or.inl rfl, q 0 (Or.inl rfl) (by omega)⟩
    · exact j30 (by omega)
  refine pzI_of 6 [(12, []), (30, [0])] [] ?_
  show ((-2147483648 ≤ c ∧ c < 2147483648) ∧ (-2147483648 ≤ (97 : Int) ∧ (97 : Int) < 2147483648) ∧ (c < (97 : Int) → pq d 2 12 [some (.inl c)] [] (A, B, Y, K, T) (qI Q)) ∧ ((97 : Int) ≤ c → ((-2147483648 ≤ c ∧ c < 2147483648) ∧ (-2147483648 ≤ (122 : Int) ∧ (122 : Int) < 2147483648) ∧ (c ≤ (122 : Int) → pq d 2 30 [none] [] (A, B, Y, K, T) (qI Q)) ∧ ((122 : Int) < c → pq d 2 12 [some (.inl c)] [] (A, B, Y, K, T) (qI Q)))))
  refine ⟨hc, by omega, fun h1 => j12 (by omega), fun h1 => ⟨hc, by omega, fun h2 => j30 (by omega), fun h2 => j12 (by omega)⟩⟩
set_option maxRecDepth 100000 in
set_option maxHeartbeats 1000000 in
theorem m_charAt {k : Int} {Q : Int → zF → zF → zF → Nat → zT → Prop} (hK : mK B) (h0 : 0 ≤ k) (h1 : k < 2147483648) (q : ∀ c, 0 ≤ c → c < 65536 → (c ≠ 0 → k < (B 39 4)) → (k < (B 39 4) → c = (B 41) k.toNat) → Q c A B Y K T) : pzI d 4 [.inr (.inr 39), .inl k] (A, B, Y, K, T) Q := by
  obtain ⟨⟨k1, k2⟩, k3⟩ := hK
  refine pzI_of 10 [] [] ?_
  show ((-2147483648 ≤ k ∧ k < 2147483648) ∧ (-2147483648 ≤ (B 39 4) ∧ (B 39 4) < 2147483648) ∧ ((B 39 4) ≤ k → Q (0 : Int) A B Y K T) ∧ (k < (B 39 4) → ((0 ≤ k ∧ k < (3000 : Int)) ∧ Q (B 41 (k).toNat) A B Y K T)))
  refine ⟨by omega, by omega, fun h => ?_, fun h => ⟨by omega, ?_⟩⟩
  · exact q 0 (by omega) (by omega) (by omega) (by omega)
  · exact q _ (k3 _).1 (k3 _).2 (fun _ => h) (fun _ => rfl)
set_option maxRecDepth 100000 in
set_option maxHeartbeats 4000000 in
theorem m_digits {Q : zF → zF → zF → Nat → zT → Prop} (hd : 1 ≤ d) (hK : mK B) (h0 : 0 ≤ (B 39 5)) (h1 : (B 39 5) ≤ (B 39 4)) (hq : ∀ a t Y', (B 39 5) ≤ a → a ≤ (B 39 4) → (((B 39 5) < (B 39 4) ∧ 48 ≤ (B 41) (B 39 5).toNat ∧ (B 41) (B 39 5).toNat ≤ 57) → (B 39 5) < a) → (t = 1 ∨ t = 2) → mY Y' → Q A (zu (zu B 39 5 a) 39 6 t) Y' K T) : pzV d 6 [.inr (.inr 39)] (A, B, Y, K, T) Q := by
  have j83 : ∀ (B Y : zF), mK B → 0 ≤ (B 39 5) → (B 39 5) ≤ (B 39 4) → mY Y → (∀ t, (t = 1 ∨ t = 2) → Q A (zu B 39 6 t) Y K T) → pq d 6 83 [some (.inr (.inr 39))] [] (A, B, Y, K, T) (qV Q) := by
    intro B Y hK h0 h1 hY hq
    obtain ⟨⟨k1, k2⟩, k3⟩ := id hK
    refine pq_of 16 [] [91, 92, 106] ?_
    show (∀ cv1 : Int, -2147483648 ≤ cv1 → cv1 < 2147483648 → (Q A (zu B 39 6 (1 : Int)) Y K T ∧ (0 < d ∧ pzI (d - 1) 4 [.inr (.inr (39 : Nat)), .inl (B 39 5)] (A, B, Y, K, T) (fun nv2 Av2 Bv2 Yv2 Kv2 Tv2 => (0 < d ∧ pzI (d - 1) 2 [.inl nv2] (Av2, Bv2, Yv2, Kv2, Tv2) (fun nv3 Av3 Bv3 Yv3 Kv3 Tv3 => (Q Av3 (zu Bv3 39 6 (2 : Int)) Yv3 Kv3 Tv3 ∧ Q Av3 (zu Bv3 39 6 (1 : Int)) Yv3 Kv3 Tv3)))))))
    intro c1 _ _
    refine ⟨hq _ (Or.inl rfl), by omega, ?_⟩
    refine m_charAt hK h0 (by omega) (fun c q1 q2 q3 q4 => ⟨by omega, m_isLetter (by omega) (fun n q5 q6 => ⟨hq _ (Or.inr rfl), hq _ (Or.inl rfl)⟩)⟩)
  have j5 : ∀ (r : Nat) (B Y : zF), mK B → 0 ≤ (B 39 5) → (B 39 5) + (r : Int) = (B 39 4) → mY Y → (∀ a t Y', (B 39 5) ≤ a → a ≤ (B 39 4) → (((B 39 5) < (B 39 4) ∧ 48 ≤ (B 41) (B 39 5).toNat ∧ (B 41) (B 39 5).toNat ≤ 57) → (B 39 5) < a) → (t = 1 ∨ t = 2) → mY Y' → Q A (zu (zu B 39 5 a) 39 6 t) Y' K T) → pq d 6 5 [some (.inr (.inr 39))] [] (A, B, Y, K, T) (qV Q) := by
    intro r
    induction r with
    | zero =>
      intro B Y hK h0 h1 hY hq
      obtain ⟨⟨k1, k2⟩, k3⟩ := id hK
      refine pq_of 6 [(5, []), (19, []), (83, [])] [] ?_
      show (0 < d ∧ pzI (d - 1) 4 [.inr (.inr (39 : Nat)), .inl (B 39 5)] (A, B, Y, K, T) (fun nv1 Av1 Bv1 Yv1 Kv1 Tv1 => (0 < d ∧ pzI (d - 1) 3 [.inl nv1] (Av1, Bv1, Yv1, Kv1, Tv1) (fun nv2 Av2 Bv2 Yv2 Kv2 Tv2 => ((-2147483648 ≤ nv2 ∧ nv2 < 2147483648) ∧ (nv2 = (0 : Int) → pq d 6 83 [some (.inr (.inr (39 : Nat)))] [] (Av2, Bv2, Yv2, Kv2, Tv2) (qV Q)) ∧ (nv2 ≠ (0 : Int) → pq d 6 19 [some (.inr (.inr (39 : Nat)))] [] (Av2, Bv2, Yv2, Kv2, Tv2) (qV Q)))))))
      refine ⟨by omega, m_charAt hK h0 (by omega) (fun c q1 q2 q3 q4 => ⟨by omega, m_isDigit (by omega) (fun n q5 q6 => ⟨by omega, fun q7 => ?_, fun q7 => ?_⟩)⟩)⟩
      · refine j83 B Y hK h0 (by omega) hY (fun t ht => ?_)
        have := hq (B 39 5) t Y (by omega) (by omega) (by omega) ht hY
        rwa [zu_id] at this
      · have : c ≠ 0 := by omega
        have := q3 this
        omega
    | succ r ih =>
      intro B Y hK h0 h1 hY hq
      obtain ⟨⟨k1, k2⟩, k3⟩ := id hK
      have j19 : pq d 6 19 [some (.inr (.inr 39))] [] (A, B, Y, K, T) (qV Q) := by
        have key : ∀ Y', mY Y' → pq d 6 5 [some (.inr (.inr 39))] [] (A, zu B 39 5 ((B 39 5) + 1), Y', K, T) (qV Q) := by
          intro Y' hY'
          refine ih _ Y' ⟨⟨k1, k2⟩, k3⟩ (show 0 ≤ (B 39 5) + 1 by omega) (show (B 39 5) + 1 + (r : Int) = (B 39 4) by omega) hY' (fun a t Y'' g1 g2 g3 g4 g5 => ?_)
          rw [zu_zu]
          have g1 : (B 39 5) + 1 ≤ a := g1
          exact hq a t Y'' (by omega) g2 (fun _ => by omega) g4 g5
        refine pq_of 30 [(5, [])] [27, 37, 41, 53, 54] ?_
        show (∀ cv1 : Int, -9223372036854775808 ≤ cv1 → cv1 < 9223372036854775808 → (0 < d ∧ pzI (d - 1) 4 [.inr (.inr (39 : Nat)), .inl (B 39 5)] (A, B, Y, K, T) (fun nv2 Av2 Bv2 Yv2 Kv2 Tv2 => ((-2147483648 ≤ nv2 ∧ nv2 < 2147483648) ∧ (∀ cv3 : Int, -9223372036854775808 ≤ cv3 → cv3 < 9223372036854775808 → (∀ cv4 : Int, -9223372036854775808 ≤ cv4 → cv4 < 9223372036854775808 → (∀ cv5 : Int, -2147483648 ≤ cv5 → cv5 < 2147483648 → (pq d 6 5 [some (.inr (.inr (39 : Nat)))] [] (Av2, (zu Bv2 39 5 ((Bv2 39 5) + (1 : Int))), (zu (zu Yv2 39 9 cv4) 39 9 ((zu Yv2 39 9 cv4) 39 9)), Kv2, Tv2) (qV Q) ∧ pq d 6 5 [some (.inr (.inr (39 : Nat)))] [] (Av2, (zu Bv2 39 5 ((Bv2 39 5) + (1 : Int))), (zu (zu Yv2 39 9 cv4) 39 9 (4294967296 : Int)), Kv2, Tv2) (qV Q)))))))))
        intro c1 _ _
        refine ⟨by omega, m_charAt hK h0 (by omega) (fun c q1 q2 q3 q4 => ⟨by omega, fun c2 _ _ c3 r1 r2 c4 _ _ => ⟨key _ ⟨r1, r2⟩, key _ (show -9223372036854775808 ≤ (4294967296 : Int) ∧ (4294967296 : Int) < 9223372036854775808 by omega)⟩⟩)⟩
      refine pq_of 6 [(5, []), (19, []), (83, [])] [] ?_
      show (0 < d ∧ pzI (d - 1) 4 [.inr (.inr (39 : Nat)), .inl (B 39 5)] (A, B, Y, K, T) (fun nv1 Av1 Bv1 Yv1 Kv1 Tv1 => (0 < d ∧ pzI (d - 1) 3 [.inl nv1] (Av1, Bv1, Yv1, Kv1, Tv1) (fun nv2 Av2 Bv2 Yv2 Kv2 Tv2 => ((-2147483648 ≤ nv2 ∧ nv2 < 2147483648) ∧ (nv2 = (0 : Int) → pq d 6 83 [some (.inr (.inr (39 : Nat)))] [] (Av2, Bv2, Yv2, Kv2, Tv2) (qV Q)) ∧ (nv2 ≠ (0 : Int) → pq d 6 19 [some (.inr (.inr (39 : Nat)))] [] (Av2, Bv2, Yv2, Kv2, Tv2) (qV Q)))))))
      refine ⟨by omega, m_charAt hK h0 (by omega) (fun c q1 q2 q3 q4 => ⟨by omega, m_isDigit (by omega) (fun n q5 q6 => ⟨by omega, fun q7 => ?_, fun q7 => j19⟩)⟩)⟩
      refine j83 B Y hK h0 (by omega) hY (fun t ht => ?_)
      have := hq (B 39 5) t Y (by omega) (by omega) (fun z => by
        have := q4 z.1
        omega) ht hY
      rwa [zu_id] at this
  refine pzV_of 3 [(5, [])] [] ?_
  show pq d 6 5 [some (.inr (.inr (39 : Nat)))] [] (A, B, (zu Y 39 9 (0 : Int)), K, T) (qV Q)
  exact j5 ((B 39 4) - (B 39 5)).toNat B _ hK h0 (by omega) (show -9223372036854775808 ≤ (0 : Int) ∧ (0 : Int) < 9223372036854775808 by omega) hq
set_option maxRecDepth 100000 in
set_option maxHeartbeats 4000000 in
theorem m_word {Q : zF → zF → zF → Nat → zT → Prop} (hd : 1 ≤ d) (hK : mK B) (h0 : 0 ≤ (B 39 5)) (h1 : (B 39 5) ≤ (B 39 4)) (hf : 0 ≤ (B 39 7) ∧ (B 39 7) ≤ 3000) (hq : ∀ a t, (B 39 5) ≤ a → a ≤ (B 39 4) → (((B 39 5) < (B 39 4) ∧ ((97 ≤ (B 41) (B 39 5).toNat ∧ (B 41) (B 39 5).toNat ≤ 122) ∨ (65 ≤ (B 41) (B 39 5).toNat ∧ (B 41) (B 39 5).toNat ≤ 90) ∨ (B 41) (B 39 5).toNat = 95)) → (B 39 5) < a) → (1 ≤ t ∧ t ≤ 11) → Q A (zu (zu B 39 5 a) 39 6 t) Y K T) : pzV d 7 [.inr (.inr 39)] (A, B, Y, K, T) Q := by
  have j78 : ∀ (B : zF) (w : Int), mK B → 0 ≤ (B 39 5) → (B 39 5) ≤ (B 39 4) → (0 ≤ (B 39 7) ∧ (B 39 7) ≤ 3000) → (∀ t, (1 ≤ t ∧ t ≤ 11) → Q A (zu B 39 6 t) Y K T) → pq d 7 78 [some (.inr (.inr 39)), some (.inr (.inl w)), none] [] (A, B, Y, K, T) (qV Q) := by
    intro B w hK h0 h1 hf hq
    obtain ⟨⟨k1, k2⟩, k3⟩ := id hK
    have j200 : ∀ t, (1 ≤ t ∧ t ≤ 11) → pq d 7 200 [none, none, none] [.inl t, .inr (.inr 39)] (A, B, Y, K, T) (qV Q) := fun t ht => by
      refine pq_of 2 [] [] ?_
      show Q A (zu B 39 6 t) Y K T
      exact hq t ht
    refine pq_of 42 [(200, [0, 1])] [90, 101, 102, 113, 114, 125, 126, 138, 139, 151, 152, 164, 165, 177, 178, 190, 191] ?_
    show ((∀ cv1 : Int, -2147483648 ≤ cv1 → cv1 < 2147483648 → ((∀ cv2 : Int, -2147483648 ≤ cv2 → cv2 < 2147483648 → ((∀ cv3 : Int, -2147483648 ≤ cv3 → cv3 < 2147483648 → ((∀ cv4 : Int, -2147483648 ≤ cv4 → cv4 < 2147483648 → ((∀ cv5 : Int, -2147483648 ≤ cv5 → cv5 < 2147483648 → ((∀ cv6 : Int, -2147483648 ≤ cv6 → cv6 < 2147483648 → ((∀ cv7 : Int, -2147483648 ≤ cv7 → cv7 < 2147483648 → ((∀ cv8 : Int, -2147483648 ≤ cv8 → cv8 < 2147483648 → (pq d 7 200 [none, none, none] [.inl (3 : Int), .inr (.inr (39 : Nat))] (A, B, Y, K, T) (qV Q) ∧ pq d 7 200 [none, none, none] [.inl (11 : Int), .inr (.inr (39 : Nat))] (A, B, Y, K, T) (qV Q))) ∧ pq d 7 200 [none, none, none] [.inl (10 : Int), .inr (.inr (39 : Nat))] (A, B, Y, K, T) (qV Q))) ∧ pq d 7 200 [none, none, none] [.inl (9 : Int), .inr (.inr (39 : Nat))] (A, B, Y, K, T) (qV Q))) ∧ pq d 7 200 [none, none, none] [.inl (8 : Int), .inr (.inr (39 : Nat))] (A, B, Y, K, T) (qV Q))) ∧ pq d 7 200 [none, none, none] [.inl (7 : Int), .inr (.inr (39 : Nat))] (A, B, Y, K, T) (qV Q))) ∧ pq d 7 200 [none, none, none] [.inl (6 : Int), .inr (.inr (39 : Nat))] (A, B, Y, K, T) (qV Q))) ∧ pq d 7 200 [none, none, none] [.inl (5 : Int), .inr (.inr (39 : Nat))] (A, B, Y, K, T) (qV Q))) ∧ pq d 7 200 [none, none, none] [.inl (4 : Int), .inr (.inr (39 : Nat))] (A, B, Y, K, T) (qV Q))) ∧ pq d 7 200 [none, none, none] [.inl (1 : Int), .inr (.inr (39 : Nat))] (A, B, Y, K, T) (qV Q))
    refine ⟨?_, j200 _ (by omega)⟩
    intro c1 _ _
    refine ⟨fun c2 _ _ => ⟨fun c3 _ _ => ⟨fun c4 _ _ => ⟨fun c5 _ _ => ⟨fun c6 _ _ => ⟨fun c7 _ _ => ⟨fun c8 _ _ => ⟨j200 _ (by omega), j200 _ (by omega)⟩, j200 _ (by omega)⟩, j200 _ (by omega)⟩, j200 _ (by omega)⟩, j200 _ (by omega)⟩, j200 _ (by omega)⟩, j200 _ (by omega)⟩, j200 _ (by omega)⟩
  have j2 : ∀ (r : Nat) (B : zF) (w : Int), mK B → 0 ≤ (B 39 5) → (B 39 5) + (r : Int) = (B 39 4) → (0 ≤ (B 39 7) ∧ (B 39 7) ≤ 3000) → (∀ a t, (B 39 5) ≤ a → a ≤ (B 39 4) → (((B 39 5) < (B 39 4) ∧ ((97 ≤ (B 41) (B 39 5).toNat ∧ (B 41) (B 39 5).toNat ≤ 122) ∨ (65 ≤ (B 41) (B 39 5).toNat ∧ (B 41) (B 39 5).toNat ≤ 90) ∨ (B 41) (B 39 5).toNat = 95)) → (B 39 5) < a) → (1 ≤ t ∧ t ≤ 11) → Q A (zu (zu B 39 5 a) 39 6 t) Y K T) → pq d 7 2 [some (.inr (.inr 39)), some (.inr (.inl w)), none] [] (A, B, Y, K, T) (qV Q) := by
    intro r
    induction r with
    | zero =>
      intro B w hK h0 h1 hf hq
      obtain ⟨⟨k1, k2⟩, k3⟩ := id hK
      refine pq_of 12 [(2, []), (30, []), (78, [])] [] ?_
      show (0 < d ∧ pzI (d - 1) 4 [.inr (.inr (39 : Nat)), .inl (B 39 5)] (A, B, Y, K, T) (fun nv1 Av1 Bv1 Yv1 Kv1 Tv1 => (0 < d ∧ pzI (d - 1) 2 [.inl nv1] (Av1, Bv1, Yv1, Kv1, Tv1) (fun nv2 Av2 Bv2 Yv2 Kv2 Tv2 => ((-2147483648 ≤ nv2 ∧ nv2 < 2147483648) ∧ (nv2 ≠ (0 : Int) → pq d 7 30 [some (.inr (.inr (39 : Nat))), some (.inr (.inl w)), none] [] (Av2, Bv2, Yv2, Kv2, Tv2) (qV Q)) ∧ (nv2 = (0 : Int) → (0 < d ∧ pzI (d - 1) 4 [.inr (.inr (39 : Nat)), .inl (Bv2 39 5)] (Av2, Bv2, Yv2, Kv2, Tv2) (fun nv3 Av3 Bv3 Yv3 Kv3 Tv3 => (0 < d ∧ pzI (d - 1) 3 [.inl nv3] (Av3, Bv3, Yv3, Kv3, Tv3) (fun nv4 Av4 Bv4 Yv4 Kv4 Tv4 => ((-2147483648 ≤ nv4 ∧ nv4 < 2147483648) ∧ (nv4 = (0 : Int) → pq d 7 78 [some (.inr (.inr (39 : Nat))), some (.inr (.inl w)), none] [] (Av4, Bv4, Yv4, Kv4, Tv4) (qV Q)) ∧ (nv4 ≠ (0 : Int) → pq d 7 30 [some (.inr (.inr (39 : Nat))), some (.inr (.inl w)), none] [] (Av4, Bv4, Yv4, Kv4, Tv4) (qV Q)))))))))))))
      refine ⟨by omega, m_charAt hK h0 (by omega) (fun c q1 q2 q3 q4 => ⟨by omega, m_isLetter (by omega) (fun n q5 q6 => ⟨by omega, fun q7 => ?_, fun q7 => ⟨by omega, m_charAt hK h0 (by omega) (fun c' p1 p2 p3 p4 => ⟨by omega, m_isDigit (by omega) (fun n' p5 p6 => ⟨by omega, fun p7 => ?_, fun p7 => ?_⟩)⟩)⟩⟩)⟩)⟩
      · have := q3 (by omega)
        omega
      · refine j78 B w hK h0 (by omega) hf (fun t ht => ?_)
        have := hq (B 39 5) t (by omega) (by omega) (by omega) ht
        rwa [zu_id] at this
      · have := p3 (by omega)
        omega
    | succ r ih =>
      intro B w hK h0 h1 hf hq
      obtain ⟨⟨k1, k2⟩, k3⟩ := id hK
      have j30 : pq d 7 30 [some (.inr (.inr 39)), some (.inr (.inl w)), none] [] (A, B, Y, K, T) (qV Q) := by
        have key : ∀ w', pq d 7 2 [some (.inr (.inr 39)), some (.inr (.inl w')), none] [] (A, zu B 39 5 ((B 39 5) + 1), Y, K, T) (qV Q) := by
          intro w'
          refine ih _ w' ⟨⟨k1, k2⟩, k3⟩ (show 0 ≤ (B 39 5) + 1 by omega) (show (B 39 5) + 1 + (r : Int) = (B 39 4) by omega) hf (fun a t g1 g2 g3 g4 => ?_)
          rw [zu_zu]
          have g1 : (B 39 5) + 1 ≤ a := g1
          exact hq a t (by omega) g2 (fun _ => by omega) g4
        refine pq_of 25 [(2, [])] [41] ?_
        show (pq d 7 2 [some (.inr (.inr (39 : Nat))), some (.inr (.inl (-1 : Int))), none] [] (A, (zu B 39 5 ((B 39 5) + (1 : Int))), Y, K, T) (qV Q) ∧ (∀ cv1 : Int, -9223372036854775808 ≤ cv1 → cv1 < 9223372036854775808 → (0 < d ∧ pzI (d - 1) 4 [.inr (.inr (39 : Nat)), .inl (B 39 5)] (A, B, Y, K, T) (fun nv2 Av2 Bv2 Yv2 Kv2 Tv2 => ((-2147483648 ≤ nv2 ∧ nv2 < 2147483648) ∧ (∀ cv3 : Int, -9223372036854775808 ≤ cv3 → cv3 < 9223372036854775808 → pq d 7 2 [some (.inr (.inr (39 : Nat))), some (.inr (.inl cv3)), none] [] (Av2, (zu Bv2 39 5 ((Bv2 39 5) + (1 : Int))), Yv2, Kv2, Tv2) (qV Q)))))))
        refine ⟨key _, fun c1 _ _ => ⟨by omega, m_charAt hK h0 (by omega) (fun c q1 q2 q3 q4 => ⟨by omega, fun c2 _ _ => key _⟩)⟩⟩
      refine pq_of 12 [(2, []), (30, []), (78, [])] [] ?_
      show (0 < d ∧ pzI (d - 1) 4 [.inr (.inr (39 : Nat)), .inl (B 39 5)] (A, B, Y, K, T) (fun nv1 Av1 Bv1 Yv1 Kv1 Tv1 => (0 < d ∧ pzI (d - 1) 2 [.inl nv1] (Av1, Bv1, Yv1, Kv1, Tv1) (fun nv2 Av2 Bv2 Yv2 Kv2 Tv2 => ((-2147483648 ≤ nv2 ∧ nv2 < 2147483648) ∧ (nv2 ≠ (0 : Int) → pq d 7 30 [some (.inr (.inr (39 : Nat))), some (.inr (.inl w)), none] [] (Av2, Bv2, Yv2, Kv2, Tv2) (qV Q)) ∧ (nv2 = (0 : Int) → (0 < d ∧ pzI (d - 1) 4 [.inr (.inr (39 : Nat)), .inl (Bv2 39 5)] (Av2, Bv2, Yv2, Kv2, Tv2) (fun nv3 Av3 Bv3 Yv3 Kv3 Tv3 => (0 < d ∧ pzI (d - 1) 3 [.inl nv3] (Av3, Bv3, Yv3, Kv3, Tv3) (fun nv4 Av4 Bv4 Yv4 Kv4 Tv4 => ((-2147483648 ≤ nv4 ∧ nv4 < 2147483648) ∧ (nv4 = (0 : Int) → pq d 7 78 [some (.inr (.inr (39 : Nat))), some (.inr (.inl w)), none] [] (Av4, Bv4, Yv4, Kv4, Tv4) (qV Q)) ∧ (nv4 ≠ (0 : Int) → pq d 7 30 [some (.inr (.inr (39 : Nat))), some (.inr (.inl w)), none] [] (Av4, Bv4, Yv4, Kv4, Tv4) (qV Q)))))))))))))
      refine ⟨by omega, m_charAt hK h0 (by omega) (fun c q1 q2 q3 q4 => ⟨by omega, m_isLetter (by omega) (fun n q5 q6 => ⟨by omega, fun q7 => j30, fun q7 => ⟨by omega, m_charAt hK h0 (by omega) (fun c' p1 p2 p3 p4 => ⟨by omega, m_isDigit (by omega) (fun n' p5 p6 => ⟨by omega, fun p7 => ?_, fun p7 => j30⟩)⟩)⟩⟩)⟩)⟩
      refine j78 B w hK h0 (by omega) hf (fun t ht => ?_)
      have := hq (B 39 5) t (by omega) (by omega) (fun z => by
        have := q4 z.1
        omega) ht
      rwa [zu_id] at this
  refine pzV_of 2 [(2, [])] [] ?_
  show pq d 7 2 [some (.inr (.inr (39 : Nat))), some (.inr (.inl (0 : Int))), none] [] (A, B, Y, K, T) (qV Q)
  exact j2 ((B 39 4) - (B 39 5)).toNat B _ hK h0 (by omega) hf hq
set_option maxRecDepth 100000 in
set_option maxHeartbeats 4000000 in
theorem m_sign {c : Int} {Q : zF → zF → zF → Nat → zT → Prop} (hd : 1 ≤ d) (hK : mK B) (h0 : 0 ≤ (B 39 5)) (h1 : (B 39 5) < (B 39 4)) (hc : 0 ≤ c ∧ c < 65536) (hq : ∀ a t, (B 39 5) < a → a ≤ (B 39 4) → (-2147483648 ≤ t ∧ t < 2147483648) → Q A (zu (zu B 39 5 a) 39 6 t) Y K T) : pzV d 8 [.inr (.inr 39), .inl c] (A, B, Y, K, T) Q := by
  obtain ⟨⟨k1, k2⟩, k3⟩ := id hK
  have j213 : ∀ (a b e x : Int), (B 39 5) < a → a ≤ (B 39 4) → (0 ≤ x ∧ x < 65536) → pq d 8 213 [some (.inr (.inr 39)), some (.inl c), some (.inl x), some (.inl b), none] [.inl e] (A, zu B 39 5 a, Y, K, T) (qV Q) := by
    intro a b e x g1 g2 g3
    refine pq_of 12 [] [217, 232] ?_
    show ((Q A (zu (zu B 39 5 a) 39 6 (1 : Int)) Y K T ∧ Q A (zu (zu B 39 5 a) 39 6 c) Y K T) ∧ Q A (zu (zu B 39 5 a) 39 6 (((256 : Int) * c) + x)) Y K T)
    exact ⟨⟨hq _ _ g1 g2 (by omega), hq _ _ g1 g2 (by omega)⟩, hq _ _ g1 g2 (by omega)⟩
  have j57 : ∀ (b x : Int), (b = 0 ∨ b = 1) → (b = 1 → (B 39 5) + 1 < (B 39 4)) → (0 ≤ x ∧ x < 65536) → pq d 8 57 [some (.inr (.inr 39)), some (.inl c), some (.inl x), none, none] [.inl b] (A, B, Y, K, T) (qV Q) := by
    intro b x g1 g2 g3
    refine pq_of 10 [(76, [])] [] ?_
    show ((-2147483648 ≤ b ∧ b < 2147483648) ∧ (b = (0 : Int) → pq d 8 76 [some (.inr (.inr (39 : Nat))), some (.inl c), some (.inl x), some (.inl b), none] [] (A, (zu B 39 5 ((B 39 5) + (1 : Int))), Y, K, T) (qV Q)) ∧ (b ≠ (0 : Int) → pq d 8 76 [some (.inr (.inr (39 : Nat))), some (.inl c), some (.inl x), some (.inl b), none] [] (A, (zu B 39 5 ((B 39 5) + (2 : Int))), Y, K, T) (qV Q)))
    refine ⟨by omega, fun z => ?_, fun z => ?_⟩
    · skip
      refine pq_of 68 [(213, [])] [79, 85, 91, 97, 103, 109, 115, 121, 127, 133, 139, 145, 151, 157, 163, 169, 175, 181, 187, 193, 199, 205] ?_
      show (pq d 8 213 [some (.inr (.inr (39 : Nat))), some (.inl c), some (.inl x), some (.inl b), none] [.inl (1 : Int)] (A, (zu B 39 5 ((B 39 5) + (1 : Int))), Y, K, T) (qV Q) ∧ (pq d 8 213 [some (.inr (.inr (39 : Nat))), some (.inl c), some (.inl x), some (.inl b), none] [.inl (1 : Int)] (A, (zu B 39 5 ((B 39 5) + (1 : Int))), Y, K, T) (qV Q) ∧ (pq d 8 213 [some (.inr (.inr (39 : Nat))), some (.inl c), some (.inl x), some (.inl b), none] [.inl (1 : Int)] (A, (zu B 39 5 ((B 39 5) + (1 : Int))), Y, K, T) (qV Q) ∧ (pq d 8 213 [some (.inr (.inr (39 : Nat))), some (.inl c), some (.inl x), some (.inl b), none] [.inl (1 : Int)] (A, (zu B 39 5 ((B 39 5) + (1 : Int))), Y, K, T) (qV Q) ∧ (pq d 8 213 [some (.inr (.inr (39 : Nat))), some (.inl c), some (.inl x), some (.inl b), none] [.inl (1 : Int)] (A, (zu B 39 5 ((B 39 5) + (1 : Int))), Y, K, T) (qV Q) ∧ (pq d 8 213 [some (.inr (.inr (39 : Nat))), some (.inl c), some (.inl x), some (.inl b), none] [.inl (1 : Int)] (A, (zu B 39 5 ((B 39 5) + (1 : Int))), Y, K, T) (qV Q) ∧ (pq d 8 213 [some (.inr (.inr (39 : Nat))), some (.inl c), some (.inl x), some (.inl b), none] [.inl (1 : Int)] (A, (zu B 39 5 ((B 39 5) + (1 : Int))), Y, K, T) (qV Q) ∧ (pq d 8 213 [some (.inr (.inr (39 : Nat))), some (.inl c), some (.inl x), some (.inl b), none] [.inl (1 : Int)] (A, (zu B 39 5 ((B 39 5) + (1 : Int))), Y, K, T) (qV Q) ∧ (pq d 8 213 [some (.inr (.inr (39 : Nat))), some (.inl c), some (.inl x), some (.inl b), none] [.inl (1 : Int)] (A, (zu B 39 5 ((B 39 5) + (1 : Int))), Y, K, T) (qV Q) ∧ (pq d 8 213 [some (.inr (.inr (39 : Nat))), some (.inl c), some (.inl x), some (.inl b), none] [.inl (1 : Int)] (A, (zu B 39 5 ((B 39 5) + (1 : Int))), Y, K, T) (qV Q) ∧ (pq d 8 213 [some (.inr (.inr (39 : Nat))), some (.inl c), some (.inl x), some (.inl b), none] [.inl (1 : Int)] (A, (zu B 39 5 ((B 39 5) + (1 : Int))), Y, K, T) (qV Q) ∧ (pq d 8 213 [some (.inr (.inr (39 : Nat))), some (.inl c), some (.inl x), some (.inl b), none] [.inl (1 : Int)] (A, (zu B 39 5 ((B 39 5) + (1 : Int))), Y, K, T) (qV Q) ∧ (pq d 8 213 [some (.inr (.inr (39 : Nat))), some (.inl c), some (.inl x), some (.inl b), none] [.inl (1 : Int)] (A, (zu B 39 5 ((B 39 5) + (1 : Int))), Y, K, T) (qV Q) ∧ (pq d 8 213 [some (.inr (.inr (39 : Nat))), some (.inl c), some (.inl x), some (.inl b), none] [.inl (1 : Int)] (A, (zu B 39 5 ((B 39 5) + (1 : Int))), Y, K, T) (qV Q) ∧ (pq d 8 213 [some (.inr (.inr (39 : Nat))), some (.inl c), some (.inl x), some (.inl b), none] [.inl (1 : Int)] (A, (zu B 39 5 ((B 39 5) + (1 : Int))), Y, K, T) (qV Q) ∧ (pq d 8 213 [some (.inr (.inr (39 : Nat))), some (.inl c), some (.inl x), some (.inl b), none] [.inl (1 : Int)] (A, (zu B 39 5 ((B 39 5) + (1 : Int))), Y, K, T) (qV Q) ∧ (pq d 8 213 [some (.inr (.inr (39 : Nat))), some (.inl c), some (.inl x), some (.inl b), none] [.inl (1 : Int)] (A, (zu B 39 5 ((B 39 5) + (1 : Int))), Y, K, T) (qV Q) ∧ (pq d 8 213 [some (.inr (.inr (39 : Nat))), some (.inl c), some (.inl x), some (.inl b), none] [.inl (1 : Int)] (A, (zu B 39 5 ((B 39 5) + (1 : Int))), Y, K, T) (qV Q) ∧ (pq d 8 213 [some (.inr (.inr (39 : Nat))), some (.inl c), some (.inl x), some (.inl b), none] [.inl (1 : Int)] (A, (zu B 39 5 ((B 39 5) + (1 : Int))), Y, K, T) (qV Q) ∧ (pq d 8 213 [some (.inr (.inr (39 : Nat))), some (.inl c), some (.inl x), some (.inl b), none] [.inl (1 : Int)] (A, (zu B 39 5 ((B 39 5) + (1 : Int))), Y, K, T) (qV Q) ∧ (pq d 8 213 [some (.inr (.inr (39 : Nat))), some (.inl c), some (.inl x), some (.inl b), none] [.inl (1 : Int)] (A, (zu B 39 5 ((B 39 5) + (1 : Int))), Y, K, T) (qV Q) ∧ (pq d 8 213 [some (.inr (.inr (39 : Nat))), some (.inl c), some (.inl x), some (.inl b), none] [.inl (0 : Int)] (A, (zu B 39 5 ((B 39 5) + (1 : Int))), Y, K, T) (qV Q) ∧ pq d 8 213 [some (.inr (.inr (39 : Nat))), some (.inl c), some (.inl x), some (.inl b), none] [.inl (1 : Int)] (A, (zu B 39 5 ((B 39 5) + (1 : Int))), Y, K, T) (qV Q)))))))))))))))))))))))
      have e1 : ∀ e, pq d 8 213 [some (.inr (.inr 39)), some (.inl c), some (.inl x), some (.inl b), none] [.inl e] (A, zu B 39 5 ((B 39 5) + 1), Y, K, T) (qV Q) := fun e => j213 _ _ _ _ (by omega) (by omega) g3
      exact ⟨e1 _, e1 _, e1 _, e1 _, e1 _, e1 _, e1 _, e1 _, e1 _, e1 _, e1 _, e1 _, e1 _, e1 _, e1 _, e1 _, e1 _, e1 _, e1 _, e1 _, e1 _, e1 _, e1 _⟩
    · skip
      refine pq_of 68 [(213, [])] [79, 85, 91, 97, 103, 109, 115, 121, 127, 133, 139, 145, 151, 157, 163, 169, 175, 181, 187, 193, 199, 205] ?_
      show (pq d 8 213 [some (.inr (.inr (39 : Nat))), some (.inl c), some (.inl x), some (.inl b), none] [.inl (1 : Int)] (A, (zu B 39 5 ((B 39 5) + (2 : Int))), Y, K, T) (qV Q) ∧ (pq d 8 213 [some (.inr (.inr (39 : Nat))), some (.inl c), some (.inl x), some (.inl b), none] [.inl (1 : Int)] (A, (zu B 39 5 ((B 39 5) + (2 : Int))), Y, K, T) (qV Q) ∧ (pq d 8 213 [some (.inr (.inr (39 : Nat))), some (.inl c), some (.inl x), some (.inl b), none] [.inl (1 : Int)] (A, (zu B 39 5 ((B 39 5) + (2 : Int))), Y, K, T) (qV Q) ∧ (pq d 8 213 [some (.inr (.inr (39 : Nat))), some (.inl c), some (.inl x), some (.inl b), none] [.inl (1 : Int)] (A, (zu B 39 5 ((B 39 5) + (2 : Int))), Y, K, T) (qV Q) ∧ (pq d 8 213 [some (.inr (.inr (39 : Nat))), some (.inl c), some (.inl x), some (.inl b), none] [.inl (1 : Int)] (A, (zu B 39 5 ((B 39 5) + (2 : Int))), Y, K, T) (qV Q) ∧ (pq d 8 213 [some (.inr (.inr (39 : Nat))), some (.inl c), some (.inl x), some (.inl b), none] [.inl (1 : Int)] (A, (zu B 39 5 ((B 39 5) + (2 : Int))), Y, K, T) (qV Q) ∧ (pq d 8 213 [some (.inr (.inr (39 : Nat))), some (.inl c), some (.inl x), some (.inl b), none] [.inl (1 : Int)] (A, (zu B 39 5 ((B 39 5) + (2 : Int))), Y, K, T) (qV Q) ∧ (pq d 8 213 [some (.inr (.inr (39 : Nat))), some (.inl c), some (.inl x), some (.inl b), none] [.inl (1 : Int)] (A, (zu B 39 5 ((B 39 5) + (2 : Int))), Y, K, T) (qV Q) ∧ (pq d 8 213 [some (.inr (.inr (39 : Nat))), some (.inl c), some (.inl x), some (.inl b), none] [.inl (1 : Int)] (A, (zu B 39 5 ((B 39 5) + (2 : Int))), Y, K, T) (qV Q) ∧ (pq d 8 213 [some (.inr (.inr (39 : Nat))), some (.inl c), some (.inl x), some (.inl b), none] [.inl (1 : Int)] (A, (zu B 39 5 ((B 39 5) + (2 : Int))), Y, K, T) (qV Q) ∧ (pq d 8 213 [some (.inr (.inr (39 : Nat))), some (.inl c), some (.inl x), some (.inl b), none] [.inl (1 : Int)] (A, (zu B 39 5 ((B 39 5) + (2 : Int))), Y, K, T) (qV Q) ∧ (pq d 8 213 [some (.inr (.inr (39 : Nat))), some (.inl c), some (.inl x), some (.inl b), none] [.inl (1 : Int)] (A, (zu B 39 5 ((B 39 5) + (2 : Int))), Y, K, T) (qV Q) ∧ (pq d 8 213 [some (.inr (.inr (39 : Nat))), some (.inl c), some (.inl x), some (.inl b), none] [.inl (1 : Int)] (A, (zu B 39 5 ((B 39 5) + (2 : Int))), Y, K, T) (qV Q) ∧ (pq d 8 213 [some (.inr (.inr (39 : Nat))), some (.inl c), some (.inl x), some (.inl b), none] [.inl (1 : Int)] (A, (zu B 39 5 ((B 39 5) + (2 : Int))), Y, K, T) (qV Q) ∧ (pq d 8 213 [some (.inr (.inr (39 : Nat))), some (.inl c), some (.inl x), some (.inl b), none] [.inl (1 : Int)] (A, (zu B 39 5 ((B 39 5) + (2 : Int))), Y, K, T) (qV Q) ∧ (pq d 8 213 [some (.inr (.inr (39 : Nat))), some (.inl c), some (.inl x), some (.inl b), none] [.inl (1 : Int)] (A, (zu B 39 5 ((B 39 5) + (2 : Int))), Y, K, T) (qV Q) ∧ (pq d 8 213 [some (.inr (.inr (39 : Nat))), some (.inl c), some (.inl x), some (.inl b), none] [.inl (1 : Int)] (A, (zu B 39 5 ((B 39 5) + (2 : Int))), Y, K, T) (qV Q) ∧ (pq d 8 213 [some (.inr (.inr (39 : Nat))), some (.inl c), some (.inl x), some (.inl b), none] [.inl (1 : Int)] (A, (zu B 39 5 ((B 39 5) + (2 : Int))), Y, K, T) (qV Q) ∧ (pq d 8 213 [some (.inr (.inr (39 : Nat))), some (.inl c), some (.inl x), some (.inl b), none] [.inl (1 : Int)] (A, (zu B 39 5 ((B 39 5) + (2 : Int))), Y, K, T) (qV Q) ∧ (pq d 8 213 [some (.inr (.inr (39 : Nat))), some (.inl c), some (.inl x), some (.inl b), none] [.inl (1 : Int)] (A, (zu B 39 5 ((B 39 5) + (2 : Int))), Y, K, T) (qV Q) ∧ (pq d 8 213 [some (.inr (.inr (39 : Nat))), some (.inl c), some (.inl x), some (.inl b), none] [.inl (1 : Int)] (A, (zu B 39 5 ((B 39 5) + (2 : Int))), Y, K, T) (qV Q) ∧ (pq d 8 213 [some (.inr (.inr (39 : Nat))), some (.inl c), some (.inl x), some (.inl b), none] [.inl (0 : Int)] (A, (zu B 39 5 ((B 39 5) + (2 : Int))), Y, K, T) (qV Q) ∧ pq d 8 213 [some (.inr (.inr (39 : Nat))), some (.inl c), some (.inl x), some (.inl b), none] [.inl (1 : Int)] (A, (zu B 39 5 ((B 39 5) + (2 : Int))), Y, K, T) (qV Q)))))))))))))))))))))))
      have e1 : ∀ e, pq d 8 213 [some (.inr (.inr 39)), some (.inl c), some (.inl x), some (.inl b), none] [.inl e] (A, zu B 39 5 ((B 39 5) + 2), Y, K, T) (qV Q) := fun e => j213 _ _ _ _ (by omega) (by omega) g3
      exact ⟨e1 _, e1 _, e1 _, e1 _, e1 _, e1 _, e1 _, e1 _, e1 _, e1 _, e1 _, e1 _, e1 _, e1 _, e1 _, e1 _, e1 _, e1 _, e1 _, e1 _, e1 _, e1 _, e1 _⟩
  have j28 : ∀ x, 0 ≤ x → x < 65536 → (x ≠ 0 → (B 39 5) + 1 < (B 39 4)) → pq d 8 28 [some (.inr (.inr 39)), some (.inl c), some (.inl x), none, none] [] (A, B, Y, K, T) (qV Q) := by
    intro x g1 g2 g3
    refine pq_of 14 [(57, [])] [31, 37, 43] ?_
    show (((-2147483648 ≤ x ∧ x < 2147483648) ∧ (-2147483648 ≤ (61 : Int) ∧ (61 : Int) < 2147483648) ∧ (x ≠ (61 : Int) → pq d 8 57 [some (.inr (.inr (39 : Nat))), some (.inl c), some (.inl x), none, none] [.inl (0 : Int)] (A, B, Y, K, T) (qV Q)) ∧ (x = (61 : Int) → pq d 8 57 [some (.inr (.inr (39 : Nat))), some (.inl c), some (.inl x), none, none] [.inl (1 : Int)] (A, B, Y, K, T) (qV Q))) ∧ (((-2147483648 ≤ x ∧ x < 2147483648) ∧ (-2147483648 ≤ (61 : Int) ∧ (61 : Int) < 2147483648) ∧ (x ≠ (61 : Int) → pq d 8 57 [some (.inr (.inr (39 : Nat))), some (.inl c), some (.inl x), none, none] [.inl (0 : Int)] (A, B, Y, K, T) (qV Q)) ∧ (x = (61 : Int) → pq d 8 57 [some (.inr (.inr (39 : Nat))), some (.inl c), some (.inl x), none, none] [.inl (1 : Int)] (A, B, Y, K, T) (qV Q))) ∧ (pq d 8 57 [some (.inr (.inr (39 : Nat))), some (.inl c), some (.inl x), none, none] [.inl (0 : Int)] (A, B, Y, K, T) (qV Q) ∧ ((-2147483648 ≤ x ∧ x < 2147483648) ∧ (-2147483648 ≤ (61 : Int) ∧ (61 : Int) < 2147483648) ∧ (x ≠ (61 : Int) → pq d 8 57 [some (.inr (.inr (39 : Nat))), some (.inl c), some (.inl x), none, none] [.inl (0 : Int)] (A, B, Y, K, T) (qV Q)) ∧ (x = (61 : Int) → pq d 8 57 [some (.inr (.inr (39 : Nat))), some (.inl c), some (.inl x), none, none] [.inl (1 : Int)] (A, B, Y, K, T) (qV Q))))))
    have t0 : pq d 8 57 [some (.inr (.inr 39)), some (.inl c), some (.inl x), none, none] [.inl 0] (A, B, Y, K, T) (qV Q) := j57 0 x (by omega) (by omega) (by omega)
    have t1 : (-2147483648 ≤ x ∧ x < 2147483648) ∧ (-2147483648 ≤ (61 : Int) ∧ (61 : Int) < 2147483648) ∧ (x ≠ 61 → pq d 8 57 [some (.inr (.inr 39)), some (.inl c), some (.inl x), none, none] [.inl 0] (A, B, Y, K, T) (qV Q)) ∧ (x = 61 → pq d 8 57 [some (.inr (.inr 39)), some (.inl c), some (.inl x), none, none] [.inl 1] (A, B, Y, K, T) (qV Q)) := ⟨by omega, by omega, fun _ => t0, fun z => j57 1 x (by omega) (fun _ => g3 (by omega)) (by omega)⟩
    exact ⟨t1, t1, t0, t1⟩
  refine pzV_of 18 [(28, []), (57, [])] [] ?_
  show (0 < d ∧ pzI (d - 1) 4 [.inr (.inr (39 : Nat)), .inl ((B 39 5) + (1 : Int))] (A, B, Y, K, T) (fun nv1 Av1 Bv1 Yv1 Kv1 Tv1 => ((-2147483648 ≤ c ∧ c < 2147483648) ∧ (-2147483648 ≤ (60 : Int) ∧ (60 : Int) < 2147483648) ∧ (c = (60 : Int) → ((-2147483648 ≤ nv1 ∧ nv1 < 2147483648) ∧ (-2147483648 ≤ c ∧ c < 2147483648) ∧ (nv1 = c → pq d 8 57 [some (.inr (.inr (39 : Nat))), some (.inl c), some (.inl nv1), none, none] [.inl (1 : Int)] (Av1, Bv1, Yv1, Kv1, Tv1) (qV Q)) ∧ (nv1 ≠ c → pq d 8 28 [some (.inr (.inr (39 : Nat))), some (.inl c), some (.inl nv1), none, none] [] (Av1, Bv1, Yv1, Kv1, Tv1) (qV Q)))) ∧ (c ≠ (60 : Int) → ((-2147483648 ≤ c ∧ c < 2147483648) ∧ (-2147483648 ≤ (62 : Int) ∧ (62 : Int) < 2147483648) ∧ (c ≠ (62 : Int) → pq d 8 28 [some (.inr (.inr (39 : Nat))), some (.inl c), some (.inl nv1), none, none] [] (Av1, Bv1, Yv1, Kv1, Tv1) (qV Q)) ∧ (c = (62 : Int) → ((-2147483648 ≤ nv1 ∧ nv1 < 2147483648) ∧ (-2147483648 ≤ c ∧ c < 2147483648) ∧ (nv1 = c → pq d 8 57 [some (.inr (.inr (39 : Nat))), some (.inl c), some (.inl nv1), none, none] [.inl (1 : Int)] (Av1, Bv1, Yv1, Kv1, Tv1) (qV Q)) ∧ (nv1 ≠ c → pq d 8 28 [some (.inr (.inr (39 : Nat))), some (.inl c), some (.inl nv1), none, none] [] (Av1, Bv1, Yv1, Kv1, Tv1) (qV Q)))))))))
  refine ⟨by omega, m_charAt hK (by omega) (by omega) (fun x g1 g2 g3 g4 => ?_)⟩
  have b28 := j28 x g1 g2 g3
  have t1 : (-2147483648 ≤ x ∧ x < 2147483648) ∧ (-2147483648 ≤ c ∧ c < 2147483648) ∧ (x = c → (c = 60 ∨ c = 62) → pq d 8 57 [some (.inr (.inr 39)), some (.inl c), some (.inl x), none, none] [.inl 1] (A, B, Y, K, T) (qV Q)) := ⟨by omega, by omega, fun z w => j57 1 x (by omega) (fun _ => g3 (by omega)) (by omega)⟩
  refine ⟨by omega, by omega, fun z => ⟨t1.1, t1.2.1, fun w => t1.2.2 w (Or.inl z), fun _ => b28⟩, fun z => ⟨by omega, by omega, fun _ => b28, fun w => ⟨t1.1, t1.2.1, fun v => t1.2.2 v (Or.inr w), fun _ => b28⟩⟩⟩
set_option maxRecDepth 100000 in
set_option maxHeartbeats 4000000 in
/-- next(): the lexer goes on to the next token -/
theorem m_next {Q : zF → zF → zF → Nat → zT → Prop} (hd : 2 ≤ d) (hK : mK B) (hY : mY Y) (h0 : 0 ≤ (B 39 5)) (h1 : (B 39 5) ≤ (B 39 4)) (hq : ∀ a t f Y', (B 39 5) ≤ f → f ≤ a → a ≤ (B 39 4) → (t ≠ 12 → f < a) → (-2147483648 ≤ t ∧ t < 2147483648) → mY Y' → Q A (mS B a t f a) Y' K T) : pzV d 5 [.inr (.inr 39)] (A, B, Y, K, T) Q := by
  have j180 : ∀ (B Y : zF), Q A (zu B 39 8 (B 39 5)) Y K T → pq d 5 180 [some (.inr (.inr 39)), none, none] [] (A, B, Y, K, T) (qV Q) := by
    intro B Y hq
    refine pq_of 5 [] [] ?_
    show Q A (zu B 39 8 (B 39 5)) Y K T
    exact hq
  have j110 : ∀ (B : zF), mK B → 0 ≤ (B 39 5) → (B 39 5) ≤ (B 39 4) → (∀ a t f Y', (B 39 5) ≤ f → f ≤ a → a ≤ (B 39 4) → (t ≠ 12 → f < a) → (-2147483648 ≤ t ∧ t < 2147483648) → mY Y' → Q A (mS B a t f a) Y' K T) → pq d 5 110 [some (.inr (.inr 39)), none, none] [] (A, B, Y, K, T) (qV Q) := by
    intro B hK h0 h1 hq
    obtain ⟨⟨k1, k2⟩, k3⟩ := id hK
    have fin : ∀ a t Y', (B 39 5) < a → a ≤ (B 39 4) → (-2147483648 ≤ t ∧ t < 2147483648) → mY Y' → Q A (zu (zu (zu (zu B 39 7 (B 39 5)) 39 5 a) 39 6 t) 39 8 a) Y' K T := fun a t Y' g1 g2 g3 g4 => by
      rw [mS_1]
      exact hq a t (B 39 5) Y' (by omega) (by omega) g2 (fun _ => g1) g3 g4
    refine pq_of 23 [(180, [1, 2])] [] ?_
    show (0 < d ∧ pzI (d - 1) 4 [.inr (.inr (39 : Nat)), .inl (B 39 5)] (A, (zu B 39 7 (B 39 5)), Y, K, T) (fun nv1 Av1 Bv1 Yv1 Kv1 Tv1 => ((-2147483648 ≤ (Bv1 39 5) ∧ (Bv1 39 5) < 2147483648) ∧ (-2147483648 ≤ (Bv1 39 4) ∧ (Bv1 39 4) < 2147483648) ∧ ((Bv1 39 5) ≠ (Bv1 39 4) → (0 < d ∧ pzI (d - 1) 3 [.inl nv1] (Av1, Bv1, Yv1, Kv1, Tv1) (fun nv2 Av2 Bv2 Yv2 Kv2 Tv2 => ((-2147483648 ≤ nv2 ∧ nv2 < 2147483648) ∧ (nv2 = (0 : Int) → (0 < d ∧ pzI (d - 1) 2 [.inl nv1] (Av2, Bv2, Yv2, Kv2, Tv2) (fun nv3 Av3 Bv3 Yv3 Kv3 Tv3 => ((-2147483648 ≤ nv3 ∧ nv3 < 2147483648) ∧ (nv3 = (0 : Int) → (0 < d ∧ pzV (d - 1) 8 [.inr (.inr (39 : Nat)), .inl nv1] (Av3, Bv3, Yv3, Kv3, Tv3) (fun Av4 Bv4 Yv4 Kv4 Tv4 => pq d 5 180 [some (.inr (.inr (39 : Nat))), none, none] [] (Av4, Bv4, Yv4, Kv4, Tv4) (qV Q)))) ∧ (nv3 ≠ (0 : Int) → (0 < d ∧ pzV (d - 1) 7 [.inr (.inr (39 : Nat))] (Av3, Bv3, Yv3, Kv3, Tv3) (fun Av5 Bv5 Yv5 Kv5 Tv5 => pq d 5 180 [some (.inr (.inr (39 : Nat))), none, none] [] (Av5, Bv5, Yv5, Kv5, Tv5) (qV Q)))))))) ∧ (nv2 ≠ (0 : Int) → (0 < d ∧ pzV (d - 1) 6 [.inr (.inr (39 : Nat))] (Av2, Bv2, Yv2, Kv2, Tv2) (fun Av6 Bv6 Yv6 Kv6 Tv6 => pq d 5 180 [some (.inr (.inr (39 : Nat))), none, none] [] (Av6, Bv6, Yv6, Kv6, Tv6) (qV Q)))))))) ∧ ((Bv1 39 5) = (Bv1 39 4) → pq d 5 180 [some (.inr (.inr (39 : Nat))), none, none] [] (Av1, (zu Bv1 39 6 (12 : Int)), Yv1, Kv1, Tv1) (qV Q)))))
    have hK7 : mK (zu B 39 7 (B 39 5)) := hK
    refine ⟨by omega, m_charAt hK7 h0 (by omega) (fun c q1 q2 q3 q4 => ⟨?_, ?_, fun z => ⟨?_, m_isDigit ?_ (fun n p1 p2 => ⟨?_, fun z1 => ⟨?_, m_isLetter ?_ (fun n' p3 p4 => ⟨?_, fun z2 => ⟨?_, m_sign ?_ hK7 h0 ?_ ⟨q1, q2⟩ (fun a t g1 g2 g3 => j180 _ _ (fin a t _ g1 g2 g3 hY))⟩, fun z2 => ⟨?_, m_word ?_ hK7 h0 h1 ?_ (fun a t g1 g2 g3 g4 => j180 _ _ (fin a t _ ?_ g2 ?_ hY))⟩⟩)⟩, fun z1 => ⟨?_, m_digits ?_ hK7 h0 h1 (fun a t Y' g1 g2 g3 g4 g5 => j180 _ _ (fin a t _ ?_ g2 ?_ g5))⟩⟩)⟩, fun z => ?_⟩)⟩
    · show -2147483648 ≤ (B 39 5) ∧ (B 39 5) < 2147483648
      omega
    · show -2147483648 ≤ (B 39 4) ∧ (B 39 4) < 2147483648
      omega
    · omega
    · omega
    · omega
    · omega
    · omega
    · omega
    · omega
    · omega
    · have z : (B 39 5) ≠ (B 39 4) := z
      show (B 39 5) < (B 39 4)
      omega
    · omega
    · omega
    · show 0 ≤ (B 39 5) ∧ (B 39 5) ≤ 3000
      omega
    · have z : (B 39 5) ≠ (B 39 4) := z
      have e : c = (B 41) (B 39 5).toNat := q4 (show (B 39 5) < (B 39 4) by omega)
      refine g3 ⟨show (B 39 5) < (B 39 4) by omega, ?_⟩
      show (97 ≤ (B 41) (B 39 5).toNat ∧ (B 41) (B 39 5).toNat ≤ 122) ∨ (65 ≤ (B 41) (B 39 5).toNat ∧ (B 41) (B 39 5).toNat ≤ 90) ∨ (B 41) (B 39 5).toNat = 95
      omega
    · omega
    · omega
    · omega
    · have z : (B 39 5) ≠ (B 39 4) := z
      have e : c = (B 41) (B 39 5).toNat := q4 (show (B 39 5) < (B 39 4) by omega)
      refine g3 ⟨show (B 39 5) < (B 39 4) by omega, ?_⟩
      show 48 ≤ (B 41) (B 39 5).toNat ∧ (B 41) (B 39 5).toNat ≤ 57
      omega
    · omega
    · refine j180 _ _ ?_
      show Q A (zu (zu (zu B 39 7 (B 39 5)) 39 6 12) 39 8 (B 39 5)) Y K T
      rw [mS_2]
      exact hq (B 39 5) 12 (B 39 5) Y (by omega) (by omega) h1 (fun z => absurd rfl z) (by omega) hY
  have j2 : ∀ (r : Nat) (B : zF) (b : Int), mK B → 0 ≤ (B 39 5) → (B 39 5) + (r : Int) = (B 39 4) → (-2147483648 ≤ b ∧ b < 2147483648) → (∀ a t f Y', (B 39 5) ≤ f → f ≤ a → a ≤ (B 39 4) → (t ≠ 12 → f < a) → (-2147483648 ≤ t ∧ t < 2147483648) → mY Y' → Q A (mS B a t f a) Y' K T) → pq d 5 2 [some (.inr (.inr 39)), some (.inl b), none] [] (A, B, Y, K, T) (qV Q) := by
    intro r
    induction r with
    | zero =>
      intro B b hK h0 h1 hb hq
      obtain ⟨⟨k1, k2⟩, k3⟩ := id hK
      refine pq_of 5 [(2, []), (13, []), (110, [1])] [] ?_
      show ((-2147483648 ≤ (B 39 5) ∧ (B 39 5) < 2147483648) ∧ (-2147483648 ≤ (B 39 4) ∧ (B 39 4) < 2147483648) ∧ ((B 39 4) ≤ (B 39 5) → pq d 5 110 [some (.inr (.inr (39 : Nat))), none, none] [] (A, B, Y, K, T) (qV Q)) ∧ ((B 39 5) < (B 39 4) → pq d 5 13 [some (.inr (.inr (39 : Nat))), some (.inl b), none] [] (A, B, Y, K, T) (qV Q)))
      exact ⟨by omega, by omega, fun _ => j110 B hK h0 (by omega) hq, fun z => absurd z (by omega)⟩
    | succ r ih =>
      intro B b hK h0 h1 hb hq
      obtain ⟨⟨k1, k2⟩, k3⟩ := id hK
      have e110 := j110 B hK h0 (by omega) hq
      have j59 : pq d 5 59 [some (.inr (.inr 39)), some (.inl b), none] [] (A, B, Y, K, T) (qV Q) := by
        have key : ∀ b', (-2147483648 ≤ b' ∧ b' < 2147483648) → pq d 5 2 [some (.inr (.inr 39)), some (.inl b'), none] [] (A, zu B 39 5 ((B 39 5) + 1), Y, K, T) (qV Q) := by
          intro b' hb'
          refine ih _ b' ⟨⟨k1, k2⟩, k3⟩ (show 0 ≤ (B 39 5) + 1 by omega) (show (B 39 5) + 1 + (r : Int) = (B 39 4) by omega) hb' (fun a t f Y' g1 g2 g3 g4 g5 g6 => ?_)
          rw [mS_3]
          have g1 : (B 39 5) + 1 ≤ f := g1
          exact hq a t f Y' (by omega) g2 g3 g4 g5 g6
        refine pq_of 26 [(2, [])] [70, 74, 88] ?_
        show ((0 ≤ (B 39 5) ∧ (B 39 5) < (3000 : Int)) ∧ (pq d 5 2 [some (.inr (.inr (39 : Nat))), some (.inl (0 : Int)), none] [] (A, (zu B 39 5 ((B 39 5) + (1 : Int))), Y, K, T) (qV Q) ∧ (pq d 5 2 [some (.inr (.inr (39 : Nat))), some (.inl (1 : Int)), none] [] (A, (zu B 39 5 ((B 39 5) + (1 : Int))), Y, K, T) (qV Q) ∧ ((0 ≤ (B 39 5) ∧ (B 39 5) < (3000 : Int)) ∧ (pq d 5 2 [some (.inr (.inr (39 : Nat))), some (.inl (0 : Int)), none] [] (A, (zu B 39 5 ((B 39 5) + (1 : Int))), Y, K, T) (qV Q) ∧ pq d 5 2 [some (.inr (.inr (39 : Nat))), some (.inl (1 : Int)), none] [] (A, (zu B 39 5 ((B 39 5) + (1 : Int))), Y, K, T) (qV Q))))))
        exact ⟨by omega, key _ (by omega), ⟨key _ (by omega), by omega, key _ (by omega), key _ (by omega)⟩⟩
      refine pq_of 28 [(2, []), (59, []), (110, [1])] [14, 28, 42, 56] ?_
      show ((-2147483648 ≤ (B 39 5) ∧ (B 39 5) < 2147483648) ∧ (-2147483648 ≤ (B 39 4) ∧ (B 39 4) < 2147483648) ∧ ((B 39 4) ≤ (B 39 5) → pq d 5 110 [some (.inr (.inr (39 : Nat))), none, none] [] (A, B, Y, K, T) (qV Q)) ∧ ((B 39 5) < (B 39 4) → (pq d 5 59 [some (.inr (.inr (39 : Nat))), some (.inl b), none] [] (A, B, Y, K, T) (qV Q) ∧ ((0 ≤ (B 39 5) ∧ (B 39 5) < (3000 : Int)) ∧ (pq d 5 59 [some (.inr (.inr (39 : Nat))), some (.inl b), none] [] (A, B, Y, K, T) (qV Q) ∧ ((0 ≤ (B 39 5) ∧ (B 39 5) < (3000 : Int)) ∧ (pq d 5 59 [some (.inr (.inr (39 : Nat))), some (.inl b), none] [] (A, B, Y, K, T) (qV Q) ∧ ((0 ≤ (B 39 5) ∧ (B 39 5) < (3000 : Int)) ∧ (pq d 5 110 [some (.inr (.inr (39 : Nat))), none, none] [] (A, B, Y, K, T) (qV Q) ∧ pq d 5 59 [some (.inr (.inr (39 : Nat))), some (.inl b), none] [] (A, B, Y, K, T) (qV Q))))))))))
      exact ⟨by omega, by omega, fun z => absurd z (by omega), fun z => ⟨j59, by omega, j59, by omega, j59, by omega, e110, j59⟩⟩
  refine pzV_of 2 [(2, [])] [] ?_
  show pq d 5 2 [some (.inr (.inr (39 : Nat))), some (.inl (0 : Int)), none] [] (A, B, Y, K, T) (qV Q)
  exact j2 ((B 39 4) - (B 39 5)).toNat B _ hK h0 (by omega) (by omega) hq
end LEX
