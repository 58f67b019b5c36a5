/-! The model's machine: small methods, orders that are no jumps -/
abbrev ir (x : Int) : Prop := -2147483648 ≤ x ∧ x < 2147483648
/-- what the machine never touches -/
def GR (B0 B : zF) : Prop := (∀ i, i ≠ 39 → i ≠ 62 → i ≠ 63 → i ≠ 64 → i ≠ 65 → B i = B0 i) ∧ (∀ j, j ≠ 50 → j ≠ 51 → j ≠ 52 → j ≠ 54 → B 39 j = B0 39 j)
def GS (B0 B : zF) (fu : Int) : Prop := GR B0 B ∧ (∀ j, ir ((B 62) j) ∧ ir ((B 63) j) ∧ ir ((B 64) j)) ∧ (0 ≤ (B 39 50) ∧ (B 39 50) ≤ 4000) ∧ (0 ≤ (B 39 51) ∧ (B 39 51) ≤ fu) ∧ ir (B 39 52)
def SE (B B' : zF) : Prop := (B' 39 54) = (B 39 54) ∧ B' 65 = B 65 ∧ (B' 39 51) = (B 39 51)
theorem SE_rf (B : zF) : SE B B := ⟨rfl, rfl, rfl⟩
theorem SE_tr {B B' B'' : zF} (h : SE B B') (g : SE B' B'') : SE B B'' := ⟨g.1.trans h.1, g.2.1.trans h.2.1, g.2.2.trans h.2.2⟩
theorem zu_ce (f : zF) {a i : Nat} (k : Nat) (v : Int) (h : i ≠ a) : zu f a k v i = f i := by
  funext j
  rw [zu_ap, if_neg (fun z => h z.1)]
theorem zu_sl (f : zF) {a i k j : Nat} (v : Int) (h : j ≠ k) : zu f a k v i j = f i j := by
  rw [zu_ap, if_neg (fun z => h z.2)]
section GS1
variable {B0 B : zF} {fu v : Int} {k : Nat}
theorem GS_pile (h : GS B0 B fu) (hv : ir v) : GS B0 (zu B 64 k v) fu := by
  obtain ⟨⟨h1, h2⟩, h3, h4, h5, h6⟩ := h
  refine ⟨⟨fun i i1 i2 i3 i4 i5 => (zu_ce _ _ _ i4).trans (h1 i i1 i2 i3 i4 i5), h2⟩, fun j => ⟨(h3 j).1, (h3 j).2.1, ?_⟩, h4, h5, h6⟩
  rw [zu_ap]
  split
  · exact hv
  · exact (h3 j).2.2
theorem GS_now (h : GS B0 B fu) (hv : ir v) : GS B0 (zu B 62 k v) fu := by
  obtain ⟨⟨h1, h2⟩, h3, h4, h5, h6⟩ := h
  refine ⟨⟨fun i i1 i2 i3 i4 i5 => (zu_ce _ _ _ i2).trans (h1 i i1 i2 i3 i4 i5), h2⟩, fun j => ⟨?_, (h3 j).2⟩, h4, h5, h6⟩
  rw [zu_ap]
  split
  · exact hv
  · exact (h3 j).1
theorem GS_frames (h : GS B0 B fu) : GS B0 (zu B 65 k v) fu := by
  obtain ⟨⟨h1, h2⟩, h3, h4, h5, h6⟩ := h
  exact ⟨⟨fun i i1 i2 i3 i4 i5 => (zu_ce _ _ _ i5).trans (h1 i i1 i2 i3 i4 i5), h2⟩, h3, h4, h5, h6⟩
theorem GS_depth (h : GS B0 B fu) : GS B0 (zu B 39 54 v) fu := by
  obtain ⟨⟨h1, h2⟩, h3, h4, h5, h6⟩ := h
  exact ⟨⟨fun i i1 i2 i3 i4 i5 => (zu_ce _ _ _ i1).trans (h1 i i1 i2 i3 i4 i5), fun j j1 j2 j3 j4 => (zu_sl _ _ j4).trans (h2 j j1 j2 j3 j4)⟩, h3, h4, h5, h6⟩
theorem GS_end (h : GS B0 B fu) (hv : ir v) : GS B0 (zu B 39 52 v) fu := by
  obtain ⟨⟨h1, h2⟩, h3, h4, h5, h6⟩ := h
  exact ⟨⟨fun i i1 i2 i3 i4 i5 => (zu_ce _ _ _ i1).trans (h1 i i1 i2 i3 i4 i5), fun j j1 j2 j3 j4 => (zu_sl _ _ j3).trans (h2 j j1 j2 j3 j4)⟩, h3, h4, h5, hv⟩
theorem GS_steps (h : GS B0 B fu) (hv : 0 ≤ v ∧ v ≤ fu) : GS B0 (zu B 39 51 v) fu := by
  obtain ⟨⟨h1, h2⟩, h3, h4, h5, h6⟩ := h
  exact ⟨⟨fun i i1 i2 i3 i4 i5 => (zu_ce _ _ _ i1).trans (h1 i i1 i2 i3 i4 i5), fun j j1 j2 j3 j4 => (zu_sl _ _ j2).trans (h2 j j1 j2 j3 j4)⟩, h3, h4, hv, h6⟩
theorem GS_note (h : GS B0 B fu) (hv : ir v) {n : Int} (hn : 0 ≤ n ∧ n ≤ 4000) : GS B0 (zu (zu B 63 k v) 39 50 n) fu := by
  obtain ⟨⟨h1, h2⟩, h3, h4, h5, h6⟩ := h
  refine ⟨⟨fun i i1 i2 i3 i4 i5 => (zu_ce _ _ _ i1).trans ((zu_ce _ _ _ i3).trans (h1 i i1 i2 i3 i4 i5)), fun j j1 j2 j3 j4 => (zu_sl _ _ j1).trans (h2 j j1 j2 j3 j4)⟩, fun j => ⟨(h3 j).1, ?_, (h3 j).2.2⟩, hn, h5, h6⟩
  show ir ((zu B 63 k v) 63 j)
  rw [zu_ap]
  split
  · exact hv
  · exact (h3 j).2.1
end GS1
section MCH
variable {d : Nat} {A B0 B Y : zF} {K : Nat} {T : zT} {fu x y q top bs a w c : Int}
set_option maxRecDepth 100000 in
set_option maxHeartbeats 4000000 in
theorem m_fails {Q : Int → zF → zF → zF → Nat → zT → Prop} (hx : x = 0 ∨ x = 1) (hy : y = 0 ∨ y = 1) (q0 : x = 0 → y = 0 → Q 0 A (zu B 39 0 0) Y K T) (q1 : ∀ c, x = 1 ∨ y = 1 → Q 1 A (zu B 39 0 c) Y K T) : pzI d 0 [.inr (.inr 39), .inl x, .inl y] (A, B, Y, K, T) Q := by
  have j21 : ∀ c, (c = 0 → x = 0 ∧ y = 0) → (c ≠ 0 → x = 1 ∨ y = 1) → (0 ≤ c ∧ c ≤ 2) → pq d 0 21 [some (.inr (.inr 39)), some (.inl x), some (.inl y)] [] (A, (zu B 39 0 c), Y, K, T) (qI Q) := by
    intro c c1 c2 c3
    refine pq_of 6 [] [] ?_
    show ((-2147483648 ≤ c ∧ c < 2147483648) ∧ (c ≤ (0 : Int) → (((0 : Int) = 0 ∨ (0 : Int) = 1) ∧ Q (0 : Int) A (zu B 39 0 c) Y K T)) ∧ ((0 : Int) < c → (((1 : Int) = 0 ∨ (1 : Int) = 1) ∧ Q (1 : Int) A (zu B 39 0 c) Y K T)))
    refine ⟨by omega, fun z => ?_, fun z => ⟨by omega, q1 c (c2 (by omega))⟩⟩
    obtain rfl : c = 0 := by omega
    exact ⟨by omega, q0 (c1 rfl).1 (c1 rfl).2⟩
  refine pzI_of 8 [(21, [])] [] ?_
  show ((-2147483648 ≤ x ∧ x < 2147483648) ∧ (x = (0 : Int) → ((-2147483648 ≤ y ∧ y < 2147483648) ∧ (y = (0 : Int) → pq d 0 21 [some (.inr (.inr (39 : Nat))), some (.inl x), some (.inl y)] [] (A, (zu B 39 0 (0 : Int)), Y, K, T) (qI Q)) ∧ (y ≠ (0 : Int) → pq d 0 21 [some (.inr (.inr (39 : Nat))), some (.inl x), some (.inl y)] [] (A, (zu B 39 0 (2 : Int)), Y, K, T) (qI Q)))) ∧ (x ≠ (0 : Int) → pq d 0 21 [some (.inr (.inr (39 : Nat))), some (.inl x), some (.inl y)] [] (A, (zu B 39 0 (1 : Int)), Y, K, T) (qI Q)))
  exact ⟨by omega, fun _ => ⟨by omega, fun _ => j21 0 (by omega) (by omega) (by omega), fun _ => j21 2 (by omega) (by omega) (by omega)⟩, fun _ => j21 1 (by omega) (by omega) (by omega)⟩
set_option maxRecDepth 100000 in
set_option maxHeartbeats 4000000 in
theorem m_worked {Q : Int → zF → zF → zF → Nat → zT → Prop} (hw : isop w) (hx : ir x) (hy : ir y) (h0 : w = 47 ∨ w = 37 → y ≠ 0) (q : ∀ c, ir c → Q c A B Y K T) : pzI d 50 [.inl w, .inl x, .inl y] (A, B, Y, K, T) Q := by
  have wr := isop_r hw
  unfold isop at hw
  have q0 := q 0 (by omega)
  have q1 := q 1 (by omega)
  have qq : ∀ c : Int, -2147483648 ≤ c → c < 2147483648 → Q c A B Y K T := fun c c1 c2 => q c ⟨c1, c2⟩
  refine pzI_of 8 [] [118, 188, 192, 196] ?_
  show ((-2147483648 ≤ w ∧ w < 2147483648) ∧ ((w = (38 : Int) → (∀ cv1 : Int, -2147483648 ≤ cv1 → cv1 < 2147483648 → Q cv1 A B Y K T)) ∧ (w = (42 : Int) → (∀ cv2 : Int, -2147483648 ≤ cv2 → cv2 < 2147483648 → Q cv2 A B Y K T)) ∧ (w = (43 : Int) → (∀ cv3 : Int, -2147483648 ≤ cv3 → cv3 < 2147483648 → Q cv3 A B Y K T)) ∧ (w = (45 : Int) → (∀ cv4 : Int, -2147483648 ≤ cv4 → cv4 < 2147483648 → Q cv4 A B Y K T)) ∧ (w = (47 : Int) → ((-2147483648 ≤ y ∧ y < 2147483648 ∧ y ≠ 0) ∧ (∀ cv5 : Int, -2147483648 ≤ cv5 → cv5 < 2147483648 → Q cv5 A B Y K T))) ∧ (w = (60 : Int) → ((-2147483648 ≤ x ∧ x < 2147483648) ∧ (-2147483648 ≤ y ∧ y < 2147483648) ∧ (y ≤ x → Q (0 : Int) A B Y K T) ∧ (x < y → Q (1 : Int) A B Y K T))) ∧ (w = (94 : Int) → (∀ cv6 : Int, -2147483648 ≤ cv6 → cv6 < 2147483648 → Q cv6 A B Y K T)) ∧ (w = (124 : Int) → (∀ cv7 : Int, -2147483648 ≤ cv7 → cv7 < 2147483648 → Q cv7 A B Y K T)) ∧ (w = (8509 : Int) → ((-2147483648 ≤ x ∧ x < 2147483648) ∧ (-2147483648 ≤ y ∧ y < 2147483648) ∧ (x = y → Q (0 : Int) A B Y K T) ∧ (x ≠ y → Q (1 : Int) A B Y K T))) ∧ (w = (15420 : Int) → (∀ cv8 : Int, -2147483648 ≤ cv8 → cv8 < 2147483648 → (∀ cv9 : Int, -2147483648 ≤ cv9 → cv9 < 2147483648 → Q cv9 A B Y K T))) ∧ (w = (15421 : Int) → ((-2147483648 ≤ x ∧ x < 2147483648) ∧ (-2147483648 ≤ y ∧ y < 2147483648) ∧ (y < x → Q (0 : Int) A B Y K T) ∧ (x ≤ y → Q (1 : Int) A B Y K T))) ∧ (w = (15677 : Int) → ((-2147483648 ≤ x ∧ x < 2147483648) ∧ (-2147483648 ≤ y ∧ y < 2147483648) ∧ (x ≠ y → Q (0 : Int) A B Y K T) ∧ (x = y → Q (1 : Int) A B Y K T))) ∧ (w = (15934 : Int) → (∀ cv10 : Int, -2147483648 ≤ cv10 → cv10 < 2147483648 → (∀ cv11 : Int, -2147483648 ≤ cv11 → cv11 < 2147483648 → Q cv11 A B Y K T))) ∧ True) ∧ ((w ≠ (38 : Int) ∧ w ≠ (42 : Int) ∧ w ≠ (43 : Int) ∧ w ≠ (45 : Int) ∧ w ≠ (47 : Int) ∧ w ≠ (60 : Int) ∧ w ≠ (94 : Int) ∧ w ≠ (124 : Int) ∧ w ≠ (8509 : Int) ∧ w ≠ (15420 : Int) ∧ w ≠ (15421 : Int) ∧ w ≠ (15677 : Int) ∧ w ≠ (15934 : Int) ∧ True) → ((-2147483648 ≤ y ∧ y < 2147483648 ∧ y ≠ 0) ∧ (∀ cv12 : Int, -2147483648 ≤ cv12 → cv12 < 2147483648 → Q cv12 A B Y K T))))
  exact ⟨wr, ⟨fun _ => qq, fun _ => qq, fun _ => qq, fun _ => qq, fun _ => ⟨by omega, qq⟩, fun _ => ⟨hx, hy, fun _ => q0, fun _ => q1⟩, fun _ => qq, fun _ => qq, fun _ => ⟨hx, hy, fun _ => q0, fun _ => q1⟩, fun _ => fun _ _ _ => qq, fun _ => ⟨hx, hy, fun _ => q0, fun _ => q1⟩, fun _ => ⟨hx, hy, fun _ => q0, fun _ => q1⟩, fun _ => fun _ _ _ => qq, trivial⟩, fun z => ⟨by omega, qq⟩⟩
set_option maxRecDepth 100000 in
set_option maxHeartbeats 4000000 in
theorem m_tell {Q : zF → zF → zF → Nat → zT → Prop} (h : GS B0 B fu) (hx : ir x) (q : ∀ B', GS B0 B' fu → SE B B' → B' 64 = B 64 → ((B' 39 52) = (B 39 52) ∨ (B' 39 52) = 4) → Q A B' Y K T) : pzV d 51 [.inr (.inr 39), .inl x] (A, B, Y, K, T) Q := by
  obtain ⟨-, -, h4, -, -⟩ := id h
  refine pzV_of 17 [] [] ?_
  show ((-2147483648 ≤ (B 39 50) ∧ (B 39 50) < 2147483648) ∧ (-2147483648 ≤ (4000 : Int) ∧ (4000 : Int) < 2147483648) ∧ ((B 39 50) ≠ (4000 : Int) → ((0 ≤ (B 39 50) ∧ (B 39 50) < (4001 : Int)) ∧ Q A (zu (zu B 63 ((B 39 50)).toNat x) 39 50 ((B 39 50) + (1 : Int))) Y K T)) ∧ ((B 39 50) = (4000 : Int) → Q A (zu B 39 52 (4 : Int)) Y K T))
  exact ⟨by omega, by omega, fun _ => ⟨by omega, q _ (GS_note h hx (by omega)) ⟨rfl, rfl, rfl⟩ rfl (Or.inl rfl)⟩, fun _ => q _ (GS_end h (by omega)) ⟨rfl, rfl, rfl⟩ rfl (Or.inr rfl)⟩
set_option maxRecDepth 100000 in
set_option maxHeartbeats 4000000 in
theorem m_cell {Q : Int → zF → zF → zF → Nat → zT → Prop} (hd : 1 ≤ d) (hD : mD B0) (h : GS B0 B fu) (ha : 0 ≤ a ∧ a < (B0 39 13)) (hx : ir x) (q : ∀ r B', ((0 ≤ r ∧ r < 2560) ∨ (r = -1 ∧ (B' 39 52) ≠ -1)) → GS B0 B' fu → SE B B' → B' 64 = B 64 → Q r A B' Y K T) : pzI d 52 [.inr (.inr 39), .inl a, .inl x] (A, B, Y, K, T) Q := by
  obtain ⟨d1, d2, d3, d4⟩ := hD
  obtain ⟨-, d5, d6, d7, d8⟩ := d3 a.toNat (by omega)
  have e44 : B 44 = B0 44 := h.1.1 44 (by omega) (by omega) (by omega) (by omega) (by omega)
  have e46 : B 46 = B0 46 := h.1.1 46 (by omega) (by omega) (by omega) (by omega) (by omega)
  have j14 : pq d 52 14 [some (.inr (.inr 39)), some (.inl a), some (.inl x)] [] (A, B, Y, K, T) (qI Q) := by
    refine pq_of 5 [] [] ?_
    show Q (-1 : Int) A (zu B 39 52 (2 : Int)) Y K T
    exact q _ _ (Or.inr ⟨rfl, by show (2 : Int) ≠ -1; omega⟩) (GS_end h (by omega)) ⟨rfl, rfl, rfl⟩ rfl
  have j21 : 0 ≤ x → x < (B0 44) a.toNat → pq d 52 21 [some (.inr (.inr 39)), some (.inl a), some (.inl x)] [] (A, B, Y, K, T) (qI Q) := by
    intro x0 x1
    refine pq_of 23 [] [34] ?_
    show ((0 ≤ a ∧ a < (40 : Int)) ∧ (∀ cv1 : Int, -2147483648 ≤ cv1 → cv1 < 2147483648 → (0 < d ∧ pzV (d - 1) 51 [.inr (.inr (39 : Nat)), .inl cv1] (A, B, Y, K, T) (fun Av2 Bv2 Yv2 Kv2 Tv2 => ((-2147483648 ≤ (Bv2 39 52) ∧ (Bv2 39 52) < 2147483648) ∧ (-2147483648 ≤ (4 : Int) ∧ (4 : Int) < 2147483648) ∧ ((Bv2 39 52) ≠ (4 : Int) → ((0 ≤ a ∧ a < (40 : Int)) ∧ Q ((Bv2 46 (a).toNat) + x) Av2 Bv2 Yv2 Kv2 Tv2)) ∧ ((Bv2 39 52) = (4 : Int) → Q (-1 : Int) Av2 Bv2 Yv2 Kv2 Tv2))))))
    refine ⟨by omega, fun c c1 c2 => ⟨by omega, m_tell h ⟨c1, c2⟩ (fun B' h' s' p' e' => ?_)⟩⟩
    obtain ⟨g1, -, -, -, g6⟩ := id h'
    have e46' : B' 46 = B0 46 := g1.1 46 (by omega) (by omega) (by omega) (by omega) (by omega)
    rw [e46']
    exact ⟨g6, by omega, fun _ => ⟨by omega, q _ _ (Or.inl (by omega)) h' s' p'⟩, fun z => q _ _ (Or.inr ⟨rfl, by omega⟩) h' s' p'⟩
  refine pzI_of 8 [(14, []), (21, [])] [] ?_
  show ((-2147483648 ≤ x ∧ x < 2147483648) ∧ (x < (0 : Int) → pq d 52 14 [some (.inr (.inr (39 : Nat))), some (.inl a), some (.inl x)] [] (A, B, Y, K, T) (qI Q)) ∧ ((0 : Int) ≤ x → ((0 ≤ a ∧ a < (40 : Int)) ∧ ((-2147483648 ≤ x ∧ x < 2147483648) ∧ (-2147483648 ≤ (B 44 (a).toNat) ∧ (B 44 (a).toNat) < 2147483648) ∧ (x < (B 44 (a).toNat) → pq d 52 21 [some (.inr (.inr (39 : Nat))), some (.inl a), some (.inl x)] [] (A, B, Y, K, T) (qI Q)) ∧ ((B 44 (a).toNat) ≤ x → pq d 52 14 [some (.inr (.inr (39 : Nat))), some (.inl a), some (.inl x)] [] (A, B, Y, K, T) (qI Q))))))
  rw [e44]
  exact ⟨hx, fun _ => j14, fun z => ⟨by omega, hx, by omega, fun z2 => j21 z z2, fun _ => j14⟩⟩
set_option maxRecDepth 100000 in
set_option maxHeartbeats 4000000 in
theorem o_1 {Q : zF → zF → zF → Nat → zT → Prop} (h : GS B0 B fu) (h1 : 0 ≤ top ∧ top < 4000) (h2 : ir a) (nx : ∀ B', GS B0 B' fu → SE B B' → pq d 53 27 [some (.inr (.inr 39)), some (.inl fu), some (.inl q), some (.inl (top + (1 : Int))), some (.inl bs), none, none, none, none, none] [] (A, B', Y, K, T) (qV Q)) : pq d 53 132 [some (.inr (.inr 39)), some (.inl fu), some (.inl q), some (.inl top), some (.inl bs), some (.inl a), some (.inl w), none, none, none] [] (A, B, Y, K, T) (qV Q) := by
  have hP := fun j => (h.2.1 j).2.2
  have hN := fun j => (h.2.1 j).1
  refine pq_of 8 [(27, [5, 6, 7, 8, 9])] [394, 731] ?_
  show ((0 ≤ top ∧ top < (4000 : Int)) ∧ pq d 53 27 [some (.inr (.inr (39 : Nat))), some (.inl fu), some (.inl q), some (.inl (top + (1 : Int))), some (.inl bs), none, none, none, none, none] [] (A, (zu B 64 (top).toNat a), Y, K, T) (qV Q))
  exact ⟨h1, nx _ (GS_pile h h2) ⟨rfl, rfl, rfl⟩⟩
set_option maxRecDepth 100000 in
set_option maxHeartbeats 4000000 in
theorem o_2 {Q : zF → zF → zF → Nat → zT → Prop} (h : GS B0 B fu) (h1 : 0 ≤ top ∧ top < 4000) (h2 : w = 2 ∧ (0 ≤ a ∧ a < 2560) ∨ w = 3 ∧ (0 ≤ bs + a ∧ bs + a < 4000)) (nx : ∀ B', GS B0 B' fu → SE B B' → pq d 53 27 [some (.inr (.inr 39)), some (.inl fu), some (.inl q), some (.inl (top + (1 : Int))), some (.inl bs), none, none, none, none, none] [] (A, B', Y, K, T) (qV Q)) : pq d 53 146 [some (.inr (.inr 39)), some (.inl fu), some (.inl q), some (.inl top), some (.inl bs), some (.inl a), some (.inl w), none, none, none] [] (A, B, Y, K, T) (qV Q) := by
  have hP := fun j => (h.2.1 j).2.2
  have hN := fun j => (h.2.1 j).1
  refine pq_of 16 [(27, [5, 6, 7, 8, 9])] [394, 731] ?_
  show ((-2147483648 ≤ w ∧ w < 2147483648) ∧ (-2147483648 ≤ (2 : Int) ∧ (2 : Int) < 2147483648) ∧ (w ≠ (2 : Int) → ((0 ≤ (bs + a) ∧ (bs + a) < (4000 : Int)) ∧ ((0 ≤ top ∧ top < (4000 : Int)) ∧ pq d 53 27 [some (.inr (.inr (39 : Nat))), some (.inl fu), some (.inl q), some (.inl (top + (1 : Int))), some (.inl bs), none, none, none, none, none] [] (A, (zu B 64 (top).toNat (B 64 ((bs + a)).toNat)), Y, K, T) (qV Q)))) ∧ (w = (2 : Int) → ((0 ≤ a ∧ a < (2560 : Int)) ∧ ((0 ≤ top ∧ top < (4000 : Int)) ∧ pq d 53 27 [some (.inr (.inr (39 : Nat))), some (.inl fu), some (.inl q), some (.inl (top + (1 : Int))), some (.inl bs), none, none, none, none, none] [] (A, (zu B 64 (top).toNat (B 62 (a).toNat)), Y, K, T) (qV Q)))))
  exact ⟨by omega, by omega, fun _ => ⟨by omega, h1, nx _ (GS_pile h (hP _)) ⟨rfl, rfl, rfl⟩⟩, fun _ => ⟨by omega, h1, nx _ (GS_pile h (hN _)) ⟨rfl, rfl, rfl⟩⟩⟩
set_option maxRecDepth 100000 in
set_option maxHeartbeats 4000000 in
theorem o_4 {Q : zF → zF → zF → Nat → zT → Prop} (hd : 3 ≤ d) (h : GS B0 B fu) (hD : mD B0) (ha : 0 ≤ a ∧ a < (B0 39 13)) (h1 : 1 ≤ top ∧ top < 4000) (nx : ∀ B', GS B0 B' fu → SE B B' → pq d 53 27 [some (.inr (.inr 39)), some (.inl fu), some (.inl q), some (.inl top), some (.inl bs), none, none, none, none, none] [] (A, B', Y, K, T) (qV Q)) : pq d 53 184 [some (.inr (.inr 39)), some (.inl fu), some (.inl q), some (.inl top), some (.inl bs), some (.inl a), some (.inl w), none, none, none] [] (A, B, Y, K, T) (qV Q) := by
  have hP := fun j => (h.2.1 j).2.2
  have hN := fun j => (h.2.1 j).1
  refine pq_of 24 [(27, [5, 6, 7, 8, 9])] [394, 731] ?_
  show ((0 ≤ (top - (1 : Int)) ∧ (top - (1 : Int)) < (4000 : Int)) ∧ (0 < d ∧ pzI (d - 1) 52 [.inr (.inr (39 : Nat)), .inl a, .inl (B 64 ((top - (1 : Int))).toNat)] (A, B, Y, K, T) (fun nv1 Av1 Bv1 Yv1 Kv1 Tv1 => ((-2147483648 ≤ nv1 ∧ nv1 < 2147483648) ∧ ((0 : Int) ≤ nv1 → ((0 ≤ nv1 ∧ nv1 < (2560 : Int)) ∧ ((0 ≤ (top - (1 : Int)) ∧ (top - (1 : Int)) < (4000 : Int)) ∧ pq d 53 27 [some (.inr (.inr (39 : Nat))), some (.inl fu), some (.inl q), some (.inl top), some (.inl bs), none, none, none, none, none] [] (Av1, (zu Bv1 64 ((top - (1 : Int))).toNat (Bv1 62 (nv1).toNat)), Yv1, Kv1, Tv1) (qV Q)))) ∧ (nv1 < (0 : Int) → ((0 ≤ (top - (1 : Int)) ∧ (top - (1 : Int)) < (4000 : Int)) ∧ pq d 53 27 [some (.inr (.inr (39 : Nat))), some (.inl fu), some (.inl q), some (.inl top), some (.inl bs), none, none, none, none, none] [] (Av1, (zu Bv1 64 ((top - (1 : Int))).toNat (0 : Int)), Yv1, Kv1, Tv1) (qV Q)))))))
  refine ⟨by omega, by omega, m_cell (by omega) hD h ha (hP _) (fun r B1 r1 h1' s1 p1 => ?_)⟩
  have hN1 := fun j => (h1'.2.1 j).1
  exact ⟨by omega, fun z => ⟨by omega, by omega, nx _ (GS_pile h1' (hN1 _)) s1⟩, fun z => ⟨by omega, nx _ (GS_pile h1' (by omega)) s1⟩⟩
set_option maxRecDepth 100000 in
set_option maxHeartbeats 4000000 in
theorem o_5 {Q : zF → zF → zF → Nat → zT → Prop} (h : GS B0 B fu) (h1 : 1 ≤ top ∧ top < 4000) (ha : 0 ≤ a ∧ a < 2560) (nx : ∀ B', GS B0 B' fu → SE B B' → pq d 53 27 [some (.inr (.inr 39)), some (.inl fu), some (.inl q), some (.inl (top + (-1 : Int))), some (.inl bs), none, none, none, none, none] [] (A, B', Y, K, T) (qV Q)) : pq d 53 227 [some (.inr (.inr 39)), some (.inl fu), some (.inl q), some (.inl top), some (.inl bs), some (.inl a), some (.inl w), none, none, none] [] (A, B, Y, K, T) (qV Q) := by
  have hP := fun j => (h.2.1 j).2.2
  have hN := fun j => (h.2.1 j).1
  refine pq_of 11 [(27, [5, 6, 7, 8, 9])] [394, 731] ?_
  show ((0 ≤ (top + (-1 : Int)) ∧ (top + (-1 : Int)) < (4000 : Int)) ∧ ((0 ≤ a ∧ a < (2560 : Int)) ∧ pq d 53 27 [some (.inr (.inr (39 : Nat))), some (.inl fu), some (.inl q), some (.inl (top + (-1 : Int))), some (.inl bs), none, none, none, none, none] [] (A, (zu B 62 (a).toNat (B 64 ((top + (-1 : Int))).toNat)), Y, K, T) (qV Q)))
  exact ⟨by omega, ha, nx _ (GS_now h (hP _)) ⟨rfl, rfl, rfl⟩⟩
set_option maxRecDepth 100000 in
set_option maxHeartbeats 4000000 in
theorem o_6 {Q : zF → zF → zF → Nat → zT → Prop} (h : GS B0 B fu) (h1 : 1 ≤ top ∧ top < 4000) (ha : 0 ≤ bs + a ∧ bs + a < 4000) (nx : ∀ B', GS B0 B' fu → SE B B' → pq d 53 27 [some (.inr (.inr 39)), some (.inl fu), some (.inl q), some (.inl (top + (-1 : Int))), some (.inl bs), none, none, none, none, none] [] (A, B', Y, K, T) (qV Q)) : pq d 53 246 [some (.inr (.inr 39)), some (.inl fu), some (.inl q), some (.inl top), some (.inl bs), some (.inl a), some (.inl w), none, none, none] [] (A, B, Y, K, T) (qV Q) := by
  have hP := fun j => (h.2.1 j).2.2
  have hN := fun j => (h.2.1 j).1
  refine pq_of 13 [(27, [5, 6, 7, 8, 9])] [394, 731] ?_
  show ((0 ≤ (top + (-1 : Int)) ∧ (top + (-1 : Int)) < (4000 : Int)) ∧ ((0 ≤ (bs + a) ∧ (bs + a) < (4000 : Int)) ∧ pq d 53 27 [some (.inr (.inr (39 : Nat))), some (.inl fu), some (.inl q), some (.inl (top + (-1 : Int))), some (.inl bs), none, none, none, none, none] [] (A, (zu B 64 ((bs + a)).toNat (B 64 ((top + (-1 : Int))).toNat)), Y, K, T) (qV Q)))
  exact ⟨by omega, ha, nx _ (GS_pile h (hP _)) ⟨rfl, rfl, rfl⟩⟩
set_option maxRecDepth 100000 in
set_option maxHeartbeats 4000000 in
theorem o_7 {Q : zF → zF → zF → Nat → zT → Prop} (hd : 3 ≤ d) (h : GS B0 B fu) (hD : mD B0) (ha : 0 ≤ a ∧ a < (B0 39 13)) (h1 : 2 ≤ top ∧ top < 4000) (nx : ∀ B', GS B0 B' fu → SE B B' → pq d 53 27 [some (.inr (.inr 39)), some (.inl fu), some (.inl q), some (.inl (top + (-2 : Int))), some (.inl bs), none, none, none, none, none] [] (A, B', Y, K, T) (qV Q)) : pq d 53 268 [some (.inr (.inr 39)), some (.inl fu), some (.inl q), some (.inl top), some (.inl bs), some (.inl a), some (.inl w), none, none, none] [] (A, B, Y, K, T) (qV Q) := by
  have hP := fun j => (h.2.1 j).2.2
  have hN := fun j => (h.2.1 j).1
  refine pq_of 23 [(27, [5, 6, 7, 8, 9])] [394, 731] ?_
  show ((0 ≤ (top + (-2 : Int)) ∧ (top + (-2 : Int)) < (4000 : Int)) ∧ (0 < d ∧ pzI (d - 1) 52 [.inr (.inr (39 : Nat)), .inl a, .inl (B 64 ((top + (-2 : Int))).toNat)] (A, B, Y, K, T) (fun nv1 Av1 Bv1 Yv1 Kv1 Tv1 => ((-2147483648 ≤ nv1 ∧ nv1 < 2147483648) ∧ (nv1 < (0 : Int) → pq d 53 27 [some (.inr (.inr (39 : Nat))), some (.inl fu), some (.inl q), some (.inl (top + (-2 : Int))), some (.inl bs), none, none, none, none, none] [] (Av1, Bv1, Yv1, Kv1, Tv1) (qV Q)) ∧ ((0 : Int) ≤ nv1 → ((0 ≤ ((top + (-2 : Int)) + (1 : Int)) ∧ ((top + (-2 : Int)) + (1 : Int)) < (4000 : Int)) ∧ ((0 ≤ nv1 ∧ nv1 < (2560 : Int)) ∧ pq d 53 27 [some (.inr (.inr (39 : Nat))), some (.inl fu), some (.inl q), some (.inl (top + (-2 : Int))), some (.inl bs), none, none, none, none, none] [] (Av1, (zu Bv1 62 (nv1).toNat (Bv1 64 (((top + (-2 : Int)) + (1 : Int))).toNat)), Yv1, Kv1, Tv1) (qV Q))))))))
  refine ⟨by omega, by omega, m_cell (by omega) hD h ha (hP _) (fun r B1 r1 h1' s1 p1 => ?_)⟩
  have hP1 := fun j => (h1'.2.1 j).2.2
  exact ⟨by omega, fun z => nx _ h1' s1, fun z => ⟨by omega, by omega, nx _ (GS_now h1' (hP1 _)) s1⟩⟩
set_option maxRecDepth 100000 in
set_option maxHeartbeats 4000000 in
theorem o_8 {Q : zF → zF → zF → Nat → zT → Prop} (hd : 3 ≤ d) (h : GS B0 B fu) (h1 : 2 ≤ top ∧ top < 4000) (ha : isop a) (nx : ∀ B', GS B0 B' fu → SE B B' → pq d 53 27 [some (.inr (.inr 39)), some (.inl fu), some (.inl q), some (.inl (top + (-1 : Int))), some (.inl bs), none, none, none, none, none] [] (A, B', Y, K, T) (qV Q)) : pq d 53 308 [some (.inr (.inr 39)), some (.inl fu), some (.inl q), some (.inl top), some (.inl bs), some (.inl a), some (.inl w), none, none, none] [] (A, B, Y, K, T) (qV Q) := by
  have hP := fun j => (h.2.1 j).2.2
  have hN := fun j => (h.2.1 j).1
  have ar := isop_r ha
  have p1 := hP (top + (-1 : Int)).toNat
  have j342 : (a = 47 ∨ a = 37 → (B 64) (top + (-1 : Int)).toNat ≠ 0) → pq d 53 342 [some (.inr (.inr 39)), some (.inl fu), some (.inl q), some (.inl (top + (-1 : Int))), some (.inl bs), some (.inl a), some (.inl w), none, none, none] [] (A, B, Y, K, T) (qV Q) := by
    intro h0
    refine pq_of 20 [(27, [5, 6, 7, 8, 9])] [394, 731] ?_
    show ((0 ≤ ((top + (-1 : Int)) - (1 : Int)) ∧ ((top + (-1 : Int)) - (1 : Int)) < (4000 : Int)) ∧ ((0 ≤ (top + (-1 : Int)) ∧ (top + (-1 : Int)) < (4000 : Int)) ∧ (0 < d ∧ pzI (d - 1) 50 [.inl a, .inl (B 64 (((top + (-1 : Int)) - (1 : Int))).toNat), .inl (B 64 ((top + (-1 : Int))).toNat)] (A, B, Y, K, T) (fun nv1 Av1 Bv1 Yv1 Kv1 Tv1 => ((0 ≤ ((top + (-1 : Int)) - (1 : Int)) ∧ ((top + (-1 : Int)) - (1 : Int)) < (4000 : Int)) ∧ pq d 53 27 [some (.inr (.inr (39 : Nat))), some (.inl fu), some (.inl q), some (.inl (top + (-1 : Int))), some (.inl bs), none, none, none, none, none] [] (Av1, (zu Bv1 64 (((top + (-1 : Int)) - (1 : Int))).toNat nv1), Yv1, Kv1, Tv1) (qV Q))))))
    exact ⟨by omega, by omega, by omega, m_worked ha (hP _) (hP _) h0 (fun c hc => ⟨by omega, nx _ (GS_pile h hc) ⟨rfl, rfl, rfl⟩⟩)⟩
  refine pq_of 17 [(27, [5, 6, 7, 8, 9]), (342, [])] [394, 731] ?_
  show ((-2147483648 ≤ a ∧ a < 2147483648) ∧ (-2147483648 ≤ (47 : Int) ∧ (47 : Int) < 2147483648) ∧ (a = (47 : Int) → ((0 ≤ (top + (-1 : Int)) ∧ (top + (-1 : Int)) < (4000 : Int)) ∧ ((-2147483648 ≤ (B 64 ((top + (-1 : Int))).toNat) ∧ (B 64 ((top + (-1 : Int))).toNat) < 2147483648) ∧ ((B 64 ((top + (-1 : Int))).toNat) ≠ (0 : Int) → pq d 53 342 [some (.inr (.inr (39 : Nat))), some (.inl fu), some (.inl q), some (.inl (top + (-1 : Int))), some (.inl bs), some (.inl a), some (.inl w), none, none, none] [] (A, B, Y, K, T) (qV Q)) ∧ ((B 64 ((top + (-1 : Int))).toNat) = (0 : Int) → pq d 53 27 [some (.inr (.inr (39 : Nat))), some (.inl fu), some (.inl q), some (.inl (top + (-1 : Int))), some (.inl bs), none, none, none, none, none] [] (A, (zu B 39 52 (3 : Int)), Y, K, T) (qV Q))))) ∧ (a ≠ (47 : Int) → ((-2147483648 ≤ a ∧ a < 2147483648) ∧ (-2147483648 ≤ (37 : Int) ∧ (37 : Int) < 2147483648) ∧ (a ≠ (37 : Int) → pq d 53 342 [some (.inr (.inr (39 : Nat))), some (.inl fu), some (.inl q), some (.inl (top + (-1 : Int))), some (.inl bs), some (.inl a), some (.inl w), none, none, none] [] (A, B, Y, K, T) (qV Q)) ∧ (a = (37 : Int) → ((0 ≤ (top + (-1 : Int)) ∧ (top + (-1 : Int)) < (4000 : Int)) ∧ ((-2147483648 ≤ (B 64 ((top + (-1 : Int))).toNat) ∧ (B 64 ((top + (-1 : Int))).toNat) < 2147483648) ∧ ((B 64 ((top + (-1 : Int))).toNat) ≠ (0 : Int) → pq d 53 342 [some (.inr (.inr (39 : Nat))), some (.inl fu), some (.inl q), some (.inl (top + (-1 : Int))), some (.inl bs), some (.inl a), some (.inl w), none, none, none] [] (A, B, Y, K, T) (qV Q)) ∧ ((B 64 ((top + (-1 : Int))).toNat) = (0 : Int) → pq d 53 27 [some (.inr (.inr (39 : Nat))), some (.inl fu), some (.inl q), some (.inl (top + (-1 : Int))), some (.inl bs), none, none, none, none, none] [] (A, (zu B 39 52 (3 : Int)), Y, K, T) (qV Q))))))))
  exact ⟨ar, by omega, fun z => ⟨by omega, p1, fun z2 => j342 (fun _ => z2), fun _ => nx _ (GS_end h (by omega)) ⟨rfl, rfl, rfl⟩⟩, fun z => ⟨ar, by omega, fun z2 => j342 (fun z3 => by omega), fun _ => ⟨by omega, p1, fun z2 => j342 (fun _ => z2), fun _ => nx _ (GS_end h (by omega)) ⟨rfl, rfl, rfl⟩⟩⟩⟩
set_option maxRecDepth 100000 in
set_option maxHeartbeats 4000000 in
theorem o_9 {Q : zF → zF → zF → Nat → zT → Prop} (h : GS B0 B fu) (h1 : 1 ≤ top ∧ top < 4000) (ha : ir a) (nx : ∀ B', GS B0 B' fu → SE B B' → pq d 53 27 [some (.inr (.inr 39)), some (.inl fu), some (.inl q), some (.inl top), some (.inl bs), none, none, none, none, none] [] (A, B', Y, K, T) (qV Q)) : pq d 53 372 [some (.inr (.inr 39)), some (.inl fu), some (.inl q), some (.inl top), some (.inl bs), some (.inl a), some (.inl w), none, none, none] [] (A, B, Y, K, T) (qV Q) := by
  have hP := fun j => (h.2.1 j).2.2
  have hN := fun j => (h.2.1 j).1
  have p1 := hP (top - (1 : Int)).toNat
  refine pq_of 23 [(27, [5, 6, 7, 8, 9])] [394, 731] ?_
  show ((-2147483648 ≤ a ∧ a < 2147483648) ∧ (-2147483648 ≤ (45 : Int) ∧ (45 : Int) < 2147483648) ∧ (a ≠ (45 : Int) → ((-2147483648 ≤ a ∧ a < 2147483648) ∧ (-2147483648 ≤ (126 : Int) ∧ (126 : Int) < 2147483648) ∧ (a ≠ (126 : Int) → ((0 ≤ (top - (1 : Int)) ∧ (top - (1 : Int)) < (4000 : Int)) ∧ ((-2147483648 ≤ (B 64 ((top - (1 : Int))).toNat) ∧ (B 64 ((top - (1 : Int))).toNat) < 2147483648) ∧ ((B 64 ((top - (1 : Int))).toNat) ≠ (0 : Int) → ((0 ≤ (top - (1 : Int)) ∧ (top - (1 : Int)) < (4000 : Int)) ∧ pq d 53 27 [some (.inr (.inr (39 : Nat))), some (.inl fu), some (.inl q), some (.inl top), some (.inl bs), none, none, none, none, none] [] (A, (zu B 64 ((top - (1 : Int))).toNat (0 : Int)), Y, K, T) (qV Q))) ∧ ((B 64 ((top - (1 : Int))).toNat) = (0 : Int) → ((0 ≤ (top - (1 : Int)) ∧ (top - (1 : Int)) < (4000 : Int)) ∧ pq d 53 27 [some (.inr (.inr (39 : Nat))), some (.inl fu), some (.inl q), some (.inl top), some (.inl bs), none, none, none, none, none] [] (A, (zu B 64 ((top - (1 : Int))).toNat (1 : Int)), Y, K, T) (qV Q)))))) ∧ (a = (126 : Int) → ((0 ≤ (top - (1 : Int)) ∧ (top - (1 : Int)) < (4000 : Int)) ∧ (∀ cv1 : Int, -2147483648 ≤ cv1 → cv1 < 2147483648 → ((0 ≤ (top - (1 : Int)) ∧ (top - (1 : Int)) < (4000 : Int)) ∧ pq d 53 27 [some (.inr (.inr (39 : Nat))), some (.inl fu), some (.inl q), some (.inl top), some (.inl bs), none, none, none, none, none] [] (A, (zu B 64 ((top - (1 : Int))).toNat cv1), Y, K, T) (qV Q))))))) ∧ (a = (45 : Int) → ((0 ≤ (top - (1 : Int)) ∧ (top - (1 : Int)) < (4000 : Int)) ∧ (∀ cv2 : Int, -2147483648 ≤ cv2 → cv2 < 2147483648 → ((0 ≤ (top - (1 : Int)) ∧ (top - (1 : Int)) < (4000 : Int)) ∧ pq d 53 27 [some (.inr (.inr (39 : Nat))), some (.inl fu), some (.inl q), some (.inl top), some (.inl bs), none, none, none, none, none] [] (A, (zu B 64 ((top - (1 : Int))).toNat cv2), Y, K, T) (qV Q))))))
  exact ⟨ha, by omega, fun _ => ⟨ha, by omega, fun _ => ⟨by omega, p1, fun _ => ⟨by omega, nx _ (GS_pile h (by omega)) ⟨rfl, rfl, rfl⟩⟩, fun _ => ⟨by omega, nx _ (GS_pile h (by omega)) ⟨rfl, rfl, rfl⟩⟩⟩, fun _ => ⟨by omega, fun c c1 c2 => ⟨by omega, nx _ (GS_pile h ⟨c1, c2⟩) ⟨rfl, rfl, rfl⟩⟩⟩⟩, fun _ => ⟨by omega, fun c c1 c2 => ⟨by omega, nx _ (GS_pile h ⟨c1, c2⟩) ⟨rfl, rfl, rfl⟩⟩⟩⟩
set_option maxRecDepth 100000 in
set_option maxHeartbeats 4000000 in
theorem o_10 {Q : zF → zF → zF → Nat → zT → Prop} (h : GS B0 B fu) (h1 : 3 ≤ top ∧ top < 4000) (nx : ∀ B', GS B0 B' fu → SE B B' → pq d 53 27 [some (.inr (.inr 39)), some (.inl fu), some (.inl q), some (.inl (top + (-2 : Int))), some (.inl bs), none, none, none, none, none] [] (A, B', Y, K, T) (qV Q)) : pq d 53 438 [some (.inr (.inr 39)), some (.inl fu), some (.inl q), some (.inl top), some (.inl bs), some (.inl a), some (.inl w), none, none, none] [] (A, B, Y, K, T) (qV Q) := by
  have hP := fun j => (h.2.1 j).2.2
  have hN := fun j => (h.2.1 j).1
  have p1 := hP ((top + (-2 : Int)) - (1 : Int)).toNat
  refine pq_of 22 [(27, [5, 6, 7, 8, 9])] [394, 731] ?_
  show ((0 ≤ ((top + (-2 : Int)) - (1 : Int)) ∧ ((top + (-2 : Int)) - (1 : Int)) < (4000 : Int)) ∧ ((-2147483648 ≤ (B 64 (((top + (-2 : Int)) - (1 : Int))).toNat) ∧ (B 64 (((top + (-2 : Int)) - (1 : Int))).toNat) < 2147483648) ∧ ((B 64 (((top + (-2 : Int)) - (1 : Int))).toNat) = (0 : Int) → ((0 ≤ ((top + (-2 : Int)) + (1 : Int)) ∧ ((top + (-2 : Int)) + (1 : Int)) < (4000 : Int)) ∧ ((0 ≤ ((top + (-2 : Int)) - (1 : Int)) ∧ ((top + (-2 : Int)) - (1 : Int)) < (4000 : Int)) ∧ pq d 53 27 [some (.inr (.inr (39 : Nat))), some (.inl fu), some (.inl q), some (.inl (top + (-2 : Int))), some (.inl bs), none, none, none, none, none] [] (A, (zu B 64 (((top + (-2 : Int)) - (1 : Int))).toNat (B 64 (((top + (-2 : Int)) + (1 : Int))).toNat)), Y, K, T) (qV Q)))) ∧ ((B 64 (((top + (-2 : Int)) - (1 : Int))).toNat) ≠ (0 : Int) → ((0 ≤ (top + (-2 : Int)) ∧ (top + (-2 : Int)) < (4000 : Int)) ∧ ((0 ≤ ((top + (-2 : Int)) - (1 : Int)) ∧ ((top + (-2 : Int)) - (1 : Int)) < (4000 : Int)) ∧ pq d 53 27 [some (.inr (.inr (39 : Nat))), some (.inl fu), some (.inl q), some (.inl (top + (-2 : Int))), some (.inl bs), none, none, none, none, none] [] (A, (zu B 64 (((top + (-2 : Int)) - (1 : Int))).toNat (B 64 ((top + (-2 : Int))).toNat)), Y, K, T) (qV Q))))))
  exact ⟨by omega, p1, fun _ => ⟨by omega, by omega, nx _ (GS_pile h (hP _)) ⟨rfl, rfl, rfl⟩⟩, fun _ => ⟨by omega, by omega, nx _ (GS_pile h (hP _)) ⟨rfl, rfl, rfl⟩⟩⟩
end MCH
