/-! The model's machine: it ends -/
/-- the cells of a function's own names -/
def Wo (F : Int) (ow : Nat → Int) (r : Int) : Int := if r < F then ow r.toNat else 0
def ff (f : Nat → Int) : List (Int × Int) → Prop
  | [] => True
  | x :: fs => f (2 * fs.length) = x.1 ∧ f (2 * fs.length + 1) = x.2 ∧ ff f fs
/-- the calls that are open: the caller's region lies above the callee's -/
def CH (N F : Int) (ow E ht rg bk : Nat → Int) : List (Int × Int) → Int → Int → Prop
  | [], r, base => r = F ∧ base = 0
  | x :: fs, r, base => ∃ r', (r < r' ∧ r' ≤ F) ∧ (1 ≤ x.1 ∧ x.1 ≤ N - 1) ∧ rg x.1.toNat = r' ∧ bk x.1.toNat = 0 ∧ base = x.2 + Wo F ow r' + ht x.1.toNat - 1 ∧ (0 ≤ x.2 ∧ x.2 + E (r' + 1).toNat ≤ 12 * (F - r') + E (F + 1).toNat) ∧ CH N F ow E ht rg bk fs r' x.2
theorem ff_congr {f f' : Nat → Int} : ∀ {fs : List (Int × Int)}, (∀ j, j < 2 * fs.length → f' j = f j) → ff f fs → ff f' fs := by
  intro fs
  induction fs with
  | nil => intro _ _; trivial
  | cons x fs ih =>
    intro h hf
    obtain ⟨h1, h2, h3⟩ := hf
    have hl : (x :: fs).length = fs.length + 1 := rfl
    exact ⟨(h _ (by omega)).trans h1, (h _ (by omega)).trans h2, ih (fun j hj => h j (by omega)) h3⟩
theorem CH_len {N F : Int} {ow E ht rg bk : Nat → Int} : ∀ {fs : List (Int × Int)} {r base : Int}, CH N F ow E ht rg bk fs r base → (fs.length : Int) + r ≤ F := by
  intro fs
  induction fs with
  | nil => intro r base h; obtain ⟨h1, -⟩ := h; show ((0 : Nat) : Int) + r ≤ F; omega
  | cons x fs ih =>
    intro r base h
    obtain ⟨r', h1, -, -, -, -, -, h2⟩ := h
    have := ih h2
    have hl : (x :: fs).length = fs.length + 1 := rfl
    omega
section FI1
variable {o u : Nat → Int} {N F tp : Int} {fb pr ow E ht rg bk : Nat → Int}
theorem FI_E (h : FI o u N F tp fb pr ow E ht rg bk) : ∀ (b a : Nat), a ≤ b → (b : Int) ≤ F + 1 → E a ≤ E b ∧ 0 ≤ E a := by
  obtain ⟨⟨n1, n2, n3⟩, -, -, -, -, ⟨h1, h2, h3⟩, -⟩ := h
  have k0 : ∀ b : Nat, (b : Int) ≤ F + 1 → 0 ≤ E b := by
    intro b
    induction b with
    | zero => intro _; exact h2
    | succ b ih =>
      intro hb
      have := ih (by omega)
      have := h1 b (by omega)
      omega
  intro b
  induction b with
  | zero => intro a ha hb; obtain rfl : a = 0 := by omega
            exact ⟨Int.le_refl _, k0 0 hb⟩
  | succ b ih =>
    intro a ha hb
    refine ⟨?_, k0 a (by omega)⟩
    by_cases e : a = b + 1
    · subst e
      exact Int.le_refl _
    · have := (ih a (by omega) (by omega)).1
      have := h1 b (by omega)
      omega
theorem Wo_r (h : FI o u N F tp fb pr ow E ht rg bk) {r : Int} (hr : 0 ≤ r) : 0 ≤ Wo F ow r ∧ Wo F ow r ≤ 12 := by
  obtain ⟨-, -, -, -, -, -, h7, -⟩ := h
  unfold Wo
  split
  · obtain ⟨-, -, -, -, h⟩ := h7 r.toNat (by omega)
    omega
  · omega
end FI1
/-- the machine runs: at order p, with the pile up to top, base the callee's first cell -/
def GI (B0 B : zF) (fu : Int) (E ht rg bk : Nat → Int) (p top base : Int) (fs : List (Int × Int)) (r h : Int) : Prop :=
  GS B0 B fu ∧ (B 39 52) = -1 ∧ ((B 39 54) = (fs.length : Int) ∧ ff (B 65) fs ∧ CH (B0 39 38) (B0 39 17) (B0 56) E ht rg bk fs r base) ∧ (0 ≤ p ∧ p ≤ (B0 39 38) - 1) ∧ ((p = 0 ∧ r = (B0 39 17) ∧ h = 0) ∨ (1 ≤ p ∧ rg p.toNat = r ∧ ht p.toNat = h)) ∧ top = base + Wo (B0 39 17) (B0 56) r + h ∧ 0 ≤ base ∧ base + E (r + 1).toNat ≤ 12 * ((B0 39 17) - r) + E ((B0 39 17) + 1).toNat
def bz (bk : Nat → Int) (p : Int) : Int := if bk p.toNat = 0 then 0 else 1
/-- how much may still come -/
def gm (B0 B : zF) (fu : Int) (bk : Nat → Int) (p : Int) : Int := (2 * (fu - (B 39 51)) + bz bk p) * 120000 + (B 39 54) * 12001 + ((B0 39 38) - p)
section GO1
variable {d : Nat} {A B0 B B' Y : zF} {K : Nat} {T : zT} {fu p top base r h h' top' : Int} {fs : List (Int × Int)} {E ht rg bk : Nat → Int}
theorem bz_0 (e : bk p.toNat = 0) : bz bk p = 0 := by
  unfold bz
  rw [if_pos e]
theorem bz_1 (e : bk p.toNat ≠ 0) : bz bk p = 1 := by
  unfold bz
  rw [if_neg e]
theorem bz_r : 0 ≤ bz bk p ∧ bz bk p ≤ 1 := by
  unfold bz
  split <;> omega
theorem GI_b (f : FI (B0 58) (B0 59) (B0 39 38) (B0 39 17) (B0 39 13) (B0 54) (B0 55) (B0 56) E ht rg bk) (g : GI B0 B fu E ht rg bk p top base fs r h) : (0 ≤ r ∧ r ≤ (B0 39 17)) ∧ 0 ≤ h ∧ (base ≤ top ∧ top < 3900) ∧ (0 ≤ base ∧ base < 3900) ∧ ((fs.length : Int) ≤ 6 ∧ (B 39 54) = (fs.length : Int)) ∧ ((B0 39 17) ≤ 6 ∧ 2 ≤ (B0 39 38)) := by
  obtain ⟨-, -, ⟨g1, g2, g3⟩, g4, g5, g6, g7, g8⟩ := g
  have w0 := @Wo_r _ _ _ _ _ _ _ _ _ _ _ _ f r
  have hE := FI_E f
  have hl := CH_len g3
  obtain ⟨⟨n1, n2, n3⟩, f2, f3, f4, f5, ⟨f6, f7, f8⟩, f9, f10⟩ := f
  rcases g5 with ⟨q1, q2, q3⟩ | ⟨q1, q2, q3⟩
  · have := w0 (by omega)
    have := (hE ((B0 39 17) + 1).toNat (r + 1).toNat (by omega) (by omega))
    exact ⟨by omega, by omega, by omega, by omega, by omega, by omega⟩
  · obtain ⟨k1, k2, k3, k4⟩ := f5 p.toNat (by omega) (by omega)
    rw [q2] at k1 k2 k4
    rw [q3] at k3 k4
    have := w0 (by omega)
    have := (hE ((B0 39 17) + 1).toNat (r + 1).toNat (by omega) (by omega))
    have := (hE ((B0 39 17) + 1).toNat r.toNat (by omega) (by omega))
    exact ⟨by omega, by omega, by omega, by omega, by omega, by omega⟩
/-- one order on, in the same call -/
theorem GI_nx (g : GI B0 B fu E ht rg bk p top base fs r h) (hp2 : p < (B0 39 38) - 1) (hr : rg (p + 1).toNat = r) (hh : ht (p + 1).toNat = h') (g1 : GS B0 B' fu) (g2 : (B' 39 52) = -1) (g3 : (B' 39 54) = (B 39 54)) (g4 : B' 65 = B 65) (et : top' = base + Wo (B0 39 17) (B0 56) r + h') : GI B0 B' fu E ht rg bk (p + 1) top' base fs r h' := by
  obtain ⟨-, -, ⟨k1, k2, k3⟩, k4, k5, k6, k7, k8⟩ := g
  exact ⟨g1, g2, ⟨g3.trans k1, by rw [g4]; exact k2, k3⟩, by omega, Or.inr ⟨by omega, hr, hh⟩, et, k7, k8⟩
/-- a jump within the call -/
theorem GI_jp (g : GI B0 B fu E ht rg bk p top base fs r h) {p' : Int} (hp1 : 1 ≤ p') (hp2 : p' ≤ (B0 39 38) - 1) (hr : rg p'.toNat = r) (hh : ht p'.toNat = h') (g1 : GS B0 B' fu) (g2 : (B' 39 52) = -1) (g3 : (B' 39 54) = (B 39 54)) (g4 : B' 65 = B 65) (et : top' = base + Wo (B0 39 17) (B0 56) r + h') : GI B0 B' fu E ht rg bk p' top' base fs r h' := by
  obtain ⟨-, -, ⟨k1, k2, k3⟩, k4, k5, k6, k7, k8⟩ := g
  exact ⟨g1, g2, ⟨g3.trans k1, by rw [g4]; exact k2, k3⟩, by omega, Or.inr ⟨by omega, hr, hh⟩, et, k7, k8⟩
set_option maxRecDepth 100000 in
set_option maxHeartbeats 4000000 in
theorem n_ok1 {Q : zF → zF → zF → Nat → zT → Prop} (hd : 4 ≤ d) (hfu : 0 ≤ fu ∧ fu ≤ 20000) (hN : (B0 39 38) ≤ 12000) (hD : mD B0) (f : FI (B0 58) (B0 59) (B0 39 38) (B0 39 17) (B0 39 13) (B0 54) (B0 55) (B0 56) E ht rg bk) (g : GI B0 B fu E ht rg bk p top base fs r h) (hn : ∀ B' p' top' base' fs' r' h', GI B0 B' fu E ht rg bk p' top' base' fs' r' h' → gm B0 B' fu bk p' < gm B0 B fu bk p → pq d 53 27 [some (.inr (.inr 39)), some (.inl fu), some (.inl p'), some (.inl top'), some (.inl base'), none, none, none, none, none] [] (A, B', Y, K, T) (qV Q)) (hs : ∀ B' p' top' base', GS B0 B' fu → (B' 39 52) ≠ -1 → pq d 53 27 [some (.inr (.inr 39)), some (.inl fu), some (.inl p'), some (.inl top'), some (.inl base'), none, none, none, none, none] [] (A, B', Y, K, T) (qV Q)) (hp : 1 ≤ p) (hp2 : p < (B0 39 38) - 1) (k2 : rg (p.toNat + 1) = rg p.toNat) (k3 : bk p.toNat = 0) (k4 : bk (p.toNat + 1) = 0) (et : top' = base + Wo (B0 39 17) (B0 56) r + ht (p.toNat + 1)) (q1 : GS B0 B' fu) (q2 : SE B B') : pq d 53 27 [some (.inr (.inr 39)), some (.inl fu), some (.inl (p + (1 : Int))), some (.inl top'), some (.inl base), none, none, none, none, none] [] (A, B', Y, K, T) (qV Q) := by
  have gb := GI_b f g
  obtain ⟨g0, g1, ⟨g2, g3, g4⟩, g5, g6, g7, g8, g9⟩ := id g
  obtain ⟨-, g10, g11, g12, g13⟩ := id g0
  obtain ⟨⟨n1, n2, n3⟩, f2, f3, f4, f5, f6, f7, f8⟩ := id f
  have t1 : (p + (1 : Int)).toNat = p.toNat + 1 := by omega
  obtain ⟨s1, s2, s3⟩ := q2
  by_cases e : (B' 39 52) = -1
  · have hr : rg p.toNat = r := by omega
    refine hn B' _ top' base fs r (ht (p.toNat + 1)) (GI_nx g hp2 (by rw [t1, k2]; exact hr) (by rw [t1]) q1 e s1 s2 et) ?_
    have z1 : bz bk p = 0 := bz_0 k3
    have z2 : bz bk (p + 1) = 0 := bz_0 (by rw [t1]; exact k4)
    unfold gm
    omega
  · exact hs B' _ _ _ q1 e
set_option maxRecDepth 100000 in
set_option maxHeartbeats 4000000 in
theorem n_clear {Q : zF → zF → zF → Nat → zT → Prop} {bs q w a : Int} (ha : 0 ≤ a ∧ a < 6) (ho : (0 ≤ (B0 56) a.toNat ∧ (B0 56) a.toNat ≤ 12)) (hb : 0 ≤ bs ∧ bs < 3950) (hx : ∀ B', GS B0 B' fu → SE B B' → (B' 39 52) = (B 39 52) → pq d 53 27 [some (.inr (.inr 39)), some (.inl fu), some (.inl ((B0 54) a.toNat)), some (.inl (bs + (B0 56) a.toNat)), some (.inl bs), none, none, none, none, none] [] (A, B', Y, K, T) (qV Q)) : ∀ (n : Nat) (k : Int) (B1 : zF), GS B0 B1 fu → SE B B1 → (B1 39 52) = (B 39 52) → (0 ≤ k ∧ k ≤ 12) → (B0 56) a.toNat ≤ k + (n : Int) → pq d 53 563 [some (.inr (.inr 39)), some (.inl fu), some (.inl q), some (.inl top), some (.inl bs), some (.inl a), some (.inl w), none, none, some (.inl k)] [] (A, B1, Y, K, T) (qV Q) := by
  intro n
  induction n with
  | zero =>
    intro k B1 b1 b2 b3 hk hn
    have e56 : B1 56 = B0 56 := b1.1.1 56 (by omega) (by omega) (by omega) (by omega) (by omega)
    have e54 : B1 54 = B0 54 := b1.1.1 54 (by omega) (by omega) (by omega) (by omega) (by omega)
    refine pq_of 20 [(27, [5, 6, 7, 8, 9]), (563, [])] [] ?_
    show ((0 ≤ a ∧ a < (6 : Int)) ∧ ((-2147483648 ≤ k ∧ k < 2147483648) ∧ (-2147483648 ≤ (B1 56 (a).toNat) ∧ (B1 56 (a).toNat) < 2147483648) ∧ ((B1 56 (a).toNat) ≤ k → ((0 ≤ a ∧ a < (6 : Int)) ∧ ((0 ≤ a ∧ a < (6 : Int)) ∧ pq d 53 27 [some (.inr (.inr (39 : Nat))), some (.inl fu), some (.inl (B1 54 (a).toNat)), some (.inl (bs + (B1 56 (a).toNat))), some (.inl bs), none, none, none, none, none] [] (A, B1, Y, K, T) (qV Q)))) ∧ (k < (B1 56 (a).toNat) → ((0 ≤ (bs + k) ∧ (bs + k) < (4000 : Int)) ∧ pq d 53 563 [some (.inr (.inr (39 : Nat))), some (.inl fu), some (.inl q), some (.inl top), some (.inl bs), some (.inl a), some (.inl w), none, none, some (.inl (k + (1 : Int)))] [] (A, (zu B1 64 ((bs + k)).toNat (0 : Int)), Y, K, T) (qV Q)))))
    rw [e56, e54]
    exact ⟨ha, by omega, by omega, fun _ => ⟨ha, ha, hx B1 b1 b2 b3⟩, fun z => absurd z (by omega)⟩
  | succ n ih =>
    intro k B1 b1 b2 b3 hk hn
    have e56 : B1 56 = B0 56 := b1.1.1 56 (by omega) (by omega) (by omega) (by omega) (by omega)
    have e54 : B1 54 = B0 54 := b1.1.1 54 (by omega) (by omega) (by omega) (by omega) (by omega)
    refine pq_of 20 [(27, [5, 6, 7, 8, 9]), (563, [])] [] ?_
    show ((0 ≤ a ∧ a < (6 : Int)) ∧ ((-2147483648 ≤ k ∧ k < 2147483648) ∧ (-2147483648 ≤ (B1 56 (a).toNat) ∧ (B1 56 (a).toNat) < 2147483648) ∧ ((B1 56 (a).toNat) ≤ k → ((0 ≤ a ∧ a < (6 : Int)) ∧ ((0 ≤ a ∧ a < (6 : Int)) ∧ pq d 53 27 [some (.inr (.inr (39 : Nat))), some (.inl fu), some (.inl (B1 54 (a).toNat)), some (.inl (bs + (B1 56 (a).toNat))), some (.inl bs), none, none, none, none, none] [] (A, B1, Y, K, T) (qV Q)))) ∧ (k < (B1 56 (a).toNat) → ((0 ≤ (bs + k) ∧ (bs + k) < (4000 : Int)) ∧ pq d 53 563 [some (.inr (.inr (39 : Nat))), some (.inl fu), some (.inl q), some (.inl top), some (.inl bs), some (.inl a), some (.inl w), none, none, some (.inl (k + (1 : Int)))] [] (A, (zu B1 64 ((bs + k)).toNat (0 : Int)), Y, K, T) (qV Q)))))
    rw [e56, e54]
    exact ⟨ha, by omega, by omega, fun _ => ⟨ha, ha, hx B1 b1 b2 b3⟩, fun z => ⟨by omega, ih _ _ (GS_pile b1 (by omega)) b2 b3 (by omega) (by omega)⟩⟩
set_option maxRecDepth 100000 in
set_option maxHeartbeats 4000000 in
theorem n_call {Q : zF → zF → zF → Nat → zT → Prop} (hd : 4 ≤ d) (hfu : 0 ≤ fu ∧ fu ≤ 20000) (hN : (B0 39 38) ≤ 12000) (hD : mD B0) (f : FI (B0 58) (B0 59) (B0 39 38) (B0 39 17) (B0 39 13) (B0 54) (B0 55) (B0 56) E ht rg bk) (g : GI B0 B fu E ht rg bk p top base fs r h) (hn : ∀ B' p' top' base' fs' r' h', GI B0 B' fu E ht rg bk p' top' base' fs' r' h' → gm B0 B' fu bk p' < gm B0 B fu bk p → pq d 53 27 [some (.inr (.inr 39)), some (.inl fu), some (.inl p'), some (.inl top'), some (.inl base'), none, none, none, none, none] [] (A, B', Y, K, T) (qV Q)) (hs : ∀ B' p' top' base', GS B0 B' fu → (B' 39 52) ≠ -1 → pq d 53 27 [some (.inr (.inr 39)), some (.inl fu), some (.inl p'), some (.inl top'), some (.inl base'), none, none, none, none, none] [] (A, B', Y, K, T) (qV Q)) (hp : 1 ≤ p) (hp2 : p < (B0 39 38) - 1) (k1 : (0 ≤ (B0 59) p.toNat ∧ (B0 59) p.toNat < rg p.toNat) ∧ (B0 55) ((B0 59) p.toNat).toNat ≤ ht p.toNat ∧ ht (p.toNat + 1) = ht p.toNat - (B0 55) ((B0 59) p.toNat).toNat + 1) (k2 : rg (p.toNat + 1) = rg p.toNat) (k3 : bk p.toNat = 0) (k4 : bk (p.toNat + 1) = 0) : pq d 53 480 [some (.inr (.inr 39)), some (.inl fu), some (.inl (p + (1 : Int))), some (.inl top), some (.inl base), some (.inl ((B0 59) p.toNat)), some (.inl ((B0 58) p.toNat)), none, none, none] [] (A, B, Y, K, T) (qV Q) := by
  have gb := GI_b f g
  obtain ⟨g0, g1, ⟨g2, g3, g4⟩, g5, g6, g7, g8, g9⟩ := id g
  obtain ⟨-, g10, g11, g12, g13⟩ := id g0
  obtain ⟨⟨n1, n2, n3⟩, f2, f3, f4, f5, f6, f7, f8⟩ := id f
  have t1 : (p + (1 : Int)).toNat = p.toNat + 1 := by omega
  obtain ⟨⟨u1, u2⟩, u3, u4⟩ := k1
  have hr : rg p.toNat = r := by omega
  have hh : ht p.toNat = h := by omega
  obtain ⟨⟨c1, c2⟩, c3, c4, c5, c6⟩ := f7 ((B0 59) p.toNat).toNat (by omega)
  have ho : 0 ≤ (B0 56) ((B0 59) p.toNat).toNat ∧ (B0 56) ((B0 59) p.toNat).toNat ≤ 12 := by omega
  have hW := Wo_r f gb.1.1
  have e55 : B 55 = B0 55 := g0.1.1 55 (by omega) (by omega) (by omega) (by omega) (by omega)
  have hE := FI_E f
  have hE1 := hE r.toNat (((B0 59) p.toNat) + 1).toNat (by omega) (by omega)
  obtain ⟨k5, k6, k7, k8⟩ := f5 p.toNat (by omega) (by omega)
  rw [hr] at k8
  have key : (B 39 51) ≠ fu → pq d 53 563 [some (.inr (.inr 39)), some (.inl fu), some (.inl (p + (1 : Int))), some (.inl top), some (.inl (top - ((B0 55) ((B0 59) p.toNat).toNat))), some (.inl ((B0 59) p.toNat)), some (.inl ((B0 58) p.toNat)), none, none, some (.inl ((B0 55) ((B0 59) p.toNat).toNat))] [] (A, (zu (zu (zu (zu B 39 51 ((B 39 51) + (1 : Int))) 65 (((2 : Int) * (B 39 54))).toNat (p + (1 : Int))) 65 ((((2 : Int) * (B 39 54)) + (1 : Int))).toNat base) 39 54 ((B 39 54) + (1 : Int))), Y, K, T) (qV Q) := by
    intro hst
    refine n_clear (B := (zu (zu (zu (zu B 39 51 ((B 39 51) + (1 : Int))) 65 (((2 : Int) * (B 39 54))).toNat (p + (1 : Int))) 65 ((((2 : Int) * (B 39 54)) + (1 : Int))).toNat base) 39 54 ((B 39 54) + (1 : Int)))) (by omega) ho (by omega) (fun B1 b1 b2 b3 => ?_) 12 _ _ (GS_depth (GS_frames (GS_frames (GS_steps g0 (by omega))))) (SE_rf _) rfl (by omega) (by omega)
    obtain ⟨s1, s2, s3⟩ := b2
    have s1 : (B1 39 54) = (B 39 54) + 1 := s1
    have s3 : (B1 39 51) = (B 39 51) + 1 := s3
    have b3 : (B1 39 52) = (B 39 52) := b3
    have hlen : (((p + 1, base) :: fs).length : Int) = (fs.length : Int) + 1 := rfl
    have hWf : Wo (B0 39 17) (B0 56) ((B0 59) p.toNat) = (B0 56) ((B0 59) p.toNat).toNat := by unfold Wo; rw [if_pos (by omega)]
    refine hn B1 _ _ _ ((p + 1, base) :: fs) ((B0 59) p.toNat) 0 ⟨b1, by omega, ⟨by omega, ⟨?_, ?_, ?_⟩, ⟨r, by omega, by show 1 ≤ p + 1 ∧ p + 1 ≤ _; omega, by show rg (p + 1).toNat = r; rw [t1, k2]; exact hr, by show bk (p + 1).toNat = 0; rw [t1]; exact k4, ?_, ⟨g8, g9⟩, g4⟩⟩, by omega, Or.inr ⟨by omega, by rw [c3]; omega, c4⟩, ?_, by omega, ?_⟩ ?_
    · show B1 65 (2 * fs.length) = p + 1
      rw [s2]
      show (zu (zu (zu B 39 51 ((B 39 51) + (1 : Int))) 65 (((2 : Int) * (B 39 54))).toNat (p + (1 : Int))) 65 ((((2 : Int) * (B 39 54)) + (1 : Int))).toNat base) 65 (2 * fs.length) = p + 1
      rw [zu_ap, if_neg (by omega), zu_ap, if_pos ⟨rfl, by omega⟩]
    · show B1 65 (2 * fs.length + 1) = base
      rw [s2]
      show (zu (zu (zu B 39 51 ((B 39 51) + (1 : Int))) 65 (((2 : Int) * (B 39 54))).toNat (p + (1 : Int))) 65 ((((2 : Int) * (B 39 54)) + (1 : Int))).toNat base) 65 (2 * fs.length + 1) = base
      rw [zu_ap, if_pos ⟨rfl, by omega⟩]
    · refine ff_congr (fun j hj => ?_) g3
      rw [s2]
      show (zu (zu (zu B 39 51 ((B 39 51) + (1 : Int))) 65 (((2 : Int) * (B 39 54))).toNat (p + (1 : Int))) 65 ((((2 : Int) * (B 39 54)) + (1 : Int))).toNat base) 65 j = B 65 j
      rw [zu_ap, if_neg (by omega), zu_ap, if_neg (by omega)]
      rfl
    · show top - _ = base + Wo (B0 39 17) (B0 56) r + ht (p + 1).toNat - 1
      rw [t1, u4]
      omega
    · rw [hWf]
      omega
    · have hE2 : E (((B0 59) p.toNat) + 1).toNat ≤ E r.toNat := hE1.1
      omega
    · have z1 : bz bk p = 0 := bz_0 k3
      have z2 : bz bk ((B0 54) ((B0 59) p.toNat).toNat) = 0 := bz_0 c5
      unfold gm
      omega
  refine pq_of 46 [(27, [5, 6, 7, 8, 9]), (563, [])] [] ?_
  show ((-2147483648 ≤ (B 39 51) ∧ (B 39 51) < 2147483648) ∧ (-2147483648 ≤ fu ∧ fu < 2147483648) ∧ ((B 39 51) ≠ fu → ((0 ≤ ((2 : Int) * (B 39 54)) ∧ ((2 : Int) * (B 39 54)) < (40 : Int)) ∧ ((0 ≤ (((2 : Int) * (B 39 54)) + (1 : Int)) ∧ (((2 : Int) * (B 39 54)) + (1 : Int)) < (40 : Int)) ∧ ((0 ≤ ((B0 59) p.toNat) ∧ ((B0 59) p.toNat) < (6 : Int)) ∧ ((0 ≤ ((B0 59) p.toNat) ∧ ((B0 59) p.toNat) < (6 : Int)) ∧ pq d 53 563 [some (.inr (.inr (39 : Nat))), some (.inl fu), some (.inl (p + (1 : Int))), some (.inl top), some (.inl (top - (B 55 (((B0 59) p.toNat)).toNat))), some (.inl ((B0 59) p.toNat)), some (.inl ((B0 58) p.toNat)), none, none, some (.inl (B 55 (((B0 59) p.toNat)).toNat))] [] (A, (zu (zu (zu (zu B 39 51 ((B 39 51) + (1 : Int))) 65 (((2 : Int) * (B 39 54))).toNat (p + (1 : Int))) 65 ((((2 : Int) * (B 39 54)) + (1 : Int))).toNat base) 39 54 ((B 39 54) + (1 : Int))), Y, K, T) (qV Q)))))) ∧ ((B 39 51) = fu → pq d 53 27 [some (.inr (.inr (39 : Nat))), some (.inl fu), some (.inl (p + (1 : Int))), some (.inl top), some (.inl base), none, none, none, none, none] [] (A, (zu B 39 52 (1 : Int)), Y, K, T) (qV Q)))
  rw [e55]
  exact ⟨by omega, by omega, fun z => ⟨by omega, by omega, by omega, by omega, key z⟩, fun _ => hs _ _ _ _ (GS_end g0 (by omega)) (by show (1 : Int) ≠ -1; omega)⟩
set_option maxRecDepth 100000 in
set_option maxHeartbeats 4000000 in
theorem n_back {Q : zF → zF → zF → Nat → zT → Prop} (hd : 4 ≤ d) (hfu : 0 ≤ fu ∧ fu ≤ 20000) (hN : (B0 39 38) ≤ 12000) (hD : mD B0) (f : FI (B0 58) (B0 59) (B0 39 38) (B0 39 17) (B0 39 13) (B0 54) (B0 55) (B0 56) E ht rg bk) (g : GI B0 B fu E ht rg bk p top base fs r h) (hn : ∀ B' p' top' base' fs' r' h', GI B0 B' fu E ht rg bk p' top' base' fs' r' h' → gm B0 B' fu bk p' < gm B0 B fu bk p → pq d 53 27 [some (.inr (.inr 39)), some (.inl fu), some (.inl p'), some (.inl top'), some (.inl base'), none, none, none, none, none] [] (A, B', Y, K, T) (qV Q)) (hs : ∀ B' p' top' base', GS B0 B' fu → (B' 39 52) ≠ -1 → pq d 53 27 [some (.inr (.inr 39)), some (.inl fu), some (.inl p'), some (.inl top'), some (.inl base'), none, none, none, none, none] [] (A, B', Y, K, T) (qV Q)) (hp : 1 ≤ p) (k1 : 1 ≤ ht p.toNat ∧ rg p.toNat < (B0 39 17)) : pq d 53 614 [some (.inr (.inr 39)), some (.inl fu), some (.inl (p + (1 : Int))), some (.inl top), some (.inl base), some (.inl ((B0 59) p.toNat)), some (.inl ((B0 58) p.toNat)), none, none, none] [] (A, B, Y, K, T) (qV Q) := by
  have gb := GI_b f g
  obtain ⟨g0, g1, ⟨g2, g3, g4⟩, g5, g6, g7, g8, g9⟩ := id g
  obtain ⟨-, g10, g11, g12, g13⟩ := id g0
  obtain ⟨⟨n1, n2, n3⟩, f2, f3, f4, f5, f6, f7, f8⟩ := id f
  have t1 : (p + (1 : Int)).toNat = p.toNat + 1 := by omega
  have hr : rg p.toNat = r := by omega
  have hh : ht p.toNat = h := by omega
  have hW := Wo_r f gb.1.1
  cases fs with
  | nil => exfalso; have := g4.1; omega
  | cons x fs =>
  obtain ⟨x1, x2⟩ := x
  obtain ⟨c1, c2, c3⟩ := g3
  obtain ⟨r', ⟨c4, c5⟩, c6, c7, c8, c9, c10, c11⟩ := g4
  have hlen : ((((x1, x2) :: fs).length : Nat) : Int) = (fs.length : Int) + 1 := rfl
  have d1 : B 65 ((2 : Int) * ((B 39 54) - (1 : Int))).toNat = x1 := by
    rw [show ((2 : Int) * ((B 39 54) - (1 : Int))).toNat = 2 * fs.length by omega]
    exact c1
  have d2 : B 65 (((2 : Int) * ((B 39 54) - (1 : Int))) + (1 : Int)).toNat = x2 := by
    rw [show (((2 : Int) * ((B 39 54) - (1 : Int))) + (1 : Int)).toNat = 2 * fs.length + 1 by omega]
    exact c2
  refine pq_of 40 [(27, [5, 6, 7, 8, 9])] [] ?_
  show ((0 ≤ (top - (1 : Int)) ∧ (top - (1 : Int)) < (4000 : Int)) ∧ ((0 ≤ base ∧ base < (4000 : Int)) ∧ ((0 ≤ ((2 : Int) * ((B 39 54) - (1 : Int))) ∧ ((2 : Int) * ((B 39 54) - (1 : Int))) < (40 : Int)) ∧ ((0 ≤ (((2 : Int) * ((B 39 54) - (1 : Int))) + (1 : Int)) ∧ (((2 : Int) * ((B 39 54) - (1 : Int))) + (1 : Int)) < (40 : Int)) ∧ pq d 53 27 [some (.inr (.inr (39 : Nat))), some (.inl fu), some (.inl (B 65 (((2 : Int) * ((B 39 54) - (1 : Int)))).toNat)), some (.inl (base + (1 : Int))), some (.inl (B 65 ((((2 : Int) * ((B 39 54) - (1 : Int))) + (1 : Int))).toNat)), none, none, none, none, none] [] (A, (zu (zu B 64 (base).toNat (B 64 ((top - (1 : Int))).toNat)) 39 54 ((B 39 54) - (1 : Int))), Y, K, T) (qV Q)))))
  rw [d1, d2]
  refine ⟨by omega, by omega, by omega, by omega, hn _ x1 _ x2 fs r' (ht x1.toNat) ⟨GS_depth (GS_pile g0 (g10 _).2.2), g1, ⟨?_, c3, c11⟩, ⟨by have := c6.1; omega, c6.2⟩, Or.inr ⟨c6.1, c7, rfl⟩, ?_, c10.1, c10.2⟩ ?_⟩
  · show (B 39 54) - 1 = _
    omega
  · have c9 : base = x2 + Wo (B0 39 17) (B0 56) r' + ht x1.toNat - 1 := c9
    omega
  · have z2 : bz bk x1 = 0 := bz_0 c8
    have z1 := @bz_r p bk
    have c6 : 1 ≤ x1 ∧ x1 ≤ (B0 39 38) - 1 := c6
    show (2 * (fu - (B 39 51)) + bz bk x1) * 120000 + ((B 39 54) - 1) * 12001 + ((B0 39 38) - x1) < (2 * (fu - (B 39 51)) + bz bk p) * 120000 + (B 39 54) * 12001 + ((B0 39 38) - p)
    omega
set_option maxRecDepth 100000 in
set_option maxHeartbeats 4000000 in
theorem n_step {Q : zF → zF → zF → Nat → zT → Prop} (hd : 4 ≤ d) (hfu : 0 ≤ fu ∧ fu ≤ 20000) (hN : (B0 39 38) ≤ 12000) (hD : mD B0) (f : FI (B0 58) (B0 59) (B0 39 38) (B0 39 17) (B0 39 13) (B0 54) (B0 55) (B0 56) E ht rg bk) (g : GI B0 B fu E ht rg bk p top base fs r h) (hn : ∀ B' p' top' base' fs' r' h', GI B0 B' fu E ht rg bk p' top' base' fs' r' h' → gm B0 B' fu bk p' < gm B0 B fu bk p → pq d 53 27 [some (.inr (.inr 39)), some (.inl fu), some (.inl p'), some (.inl top'), some (.inl base'), none, none, none, none, none] [] (A, B', Y, K, T) (qV Q)) (hs : ∀ B' p' top' base', GS B0 B' fu → (B' 39 52) ≠ -1 → pq d 53 27 [some (.inr (.inr 39)), some (.inl fu), some (.inl p'), some (.inl top'), some (.inl base'), none, none, none, none, none] [] (A, B', Y, K, T) (qV Q)) (hp : 1 ≤ p) (hp2 : p < (B0 39 38) - 1) (k1 : ht (p.toNat + 1) = ht p.toNat) (k2 : rg (p.toNat + 1) = rg p.toNat) : pq d 53 674 [some (.inr (.inr 39)), some (.inl fu), some (.inl (p + (1 : Int))), some (.inl top), some (.inl base), some (.inl ((B0 59) p.toNat)), some (.inl ((B0 58) p.toNat)), none, none, none] [] (A, B, Y, K, T) (qV Q) := by
  have gb := GI_b f g
  obtain ⟨g0, g1, ⟨g2, g3, g4⟩, g5, g6, g7, g8, g9⟩ := id g
  obtain ⟨-, g10, g11, g12, g13⟩ := id g0
  obtain ⟨⟨n1, n2, n3⟩, f2, f3, f4, f5, f6, f7, f8⟩ := id f
  have t1 : (p + (1 : Int)).toNat = p.toNat + 1 := by omega
  have hr : rg p.toNat = r := by omega
  have hh : ht p.toNat = h := by omega
  refine pq_of 12 [(27, [5, 6, 7, 8, 9])] [] ?_
  show ((-2147483648 ≤ (B 39 51) ∧ (B 39 51) < 2147483648) ∧ (-2147483648 ≤ fu ∧ fu < 2147483648) ∧ ((B 39 51) ≠ fu → pq d 53 27 [some (.inr (.inr (39 : Nat))), some (.inl fu), some (.inl (p + (1 : Int))), some (.inl top), some (.inl base), none, none, none, none, none] [] (A, (zu B 39 51 ((B 39 51) + (1 : Int))), Y, K, T) (qV Q)) ∧ ((B 39 51) = fu → pq d 53 27 [some (.inr (.inr (39 : Nat))), some (.inl fu), some (.inl (p + (1 : Int))), some (.inl top), some (.inl base), none, none, none, none, none] [] (A, (zu B 39 52 (1 : Int)), Y, K, T) (qV Q)))
  refine ⟨by omega, by omega, fun z => hn _ _ _ _ fs r h (GI_nx g hp2 (by rw [t1, k2]; exact hr) (by rw [t1, k1]; exact hh) (GS_steps g0 (by omega)) g1 rfl rfl g7) ?_, fun _ => hs _ _ _ _ (GS_end g0 (by omega)) (by show (1 : Int) ≠ -1; omega)⟩
  have z1 := @bz_r p bk
  have z2 := @bz_r (p + 1) bk
  show (2 * (fu - ((B 39 51) + 1)) + bz bk (p + 1)) * 120000 + (B 39 54) * 12001 + ((B0 39 38) - (p + 1)) < (2 * (fu - (B 39 51)) + bz bk p) * 120000 + (B 39 54) * 12001 + ((B0 39 38) - p)
  omega
set_option maxRecDepth 100000 in
set_option maxHeartbeats 4000000 in
theorem n_branch {Q : zF → zF → zF → Nat → zT → Prop} (hd : 4 ≤ d) (hfu : 0 ≤ fu ∧ fu ≤ 20000) (hN : (B0 39 38) ≤ 12000) (hD : mD B0) (f : FI (B0 58) (B0 59) (B0 39 38) (B0 39 17) (B0 39 13) (B0 54) (B0 55) (B0 56) E ht rg bk) (g : GI B0 B fu E ht rg bk p top base fs r h) (hn : ∀ B' p' top' base' fs' r' h', GI B0 B' fu E ht rg bk p' top' base' fs' r' h' → gm B0 B' fu bk p' < gm B0 B fu bk p → pq d 53 27 [some (.inr (.inr 39)), some (.inl fu), some (.inl p'), some (.inl top'), some (.inl base'), none, none, none, none, none] [] (A, B', Y, K, T) (qV Q)) (hs : ∀ B' p' top' base', GS B0 B' fu → (B' 39 52) ≠ -1 → pq d 53 27 [some (.inr (.inr 39)), some (.inl fu), some (.inl p'), some (.inl top'), some (.inl base'), none, none, none, none, none] [] (A, B', Y, K, T) (qV Q)) (hp : 1 ≤ p) (hp2 : p < (B0 39 38) - 1) (k0 : ht p.toNat = 1) (k1 : ht (p.toNat + 1) = 0) (k2 : rg (p.toNat + 1) = rg p.toNat) (k3 : bk p.toNat = 0) (k4 : bk (p.toNat + 1) = 0) (kt : okt (B0 58) (B0 59) (B0 39 17) ((B0 39 38) - 1) ht rg bk p.toNat) : pq d 53 703 [some (.inr (.inr 39)), some (.inl fu), some (.inl (p + (1 : Int))), some (.inl top), some (.inl base), some (.inl ((B0 59) p.toNat)), some (.inl ((B0 58) p.toNat)), none, none, none] [] (A, B, Y, K, T) (qV Q) := by
  have gb := GI_b f g
  obtain ⟨g0, g1, ⟨g2, g3, g4⟩, g5, g6, g7, g8, g9⟩ := id g
  obtain ⟨-, g10, g11, g12, g13⟩ := id g0
  obtain ⟨⟨n1, n2, n3⟩, f2, f3, f4, f5, f6, f7, f8⟩ := id f
  have t1 : (p + (1 : Int)).toNat = p.toNat + 1 := by omega
  have hr : rg p.toNat = r := by omega
  have hh : ht p.toNat = h := by omega
  have hW := Wo_r f gb.1.1
  have z1 : bz bk p = 0 := bz_0 k3
  obtain ⟨o1, o2, o3, o4, o5, o6, o7⟩ := kt
  have o4 := o4 k3
  have j1 : ∀ B1, GS B0 B1 fu → SE B B1 → pq d 53 27 [some (.inr (.inr 39)), some (.inl fu), some (.inl (p + (1 : Int))), some (.inl (top + (-1 : Int))), some (.inl base), none, none, none, none, none] [] (A, B1, Y, K, T) (qV Q) := by
    intro B1 b1 b2
    obtain ⟨s1, s2, s3⟩ := b2
    by_cases e : (B1 39 52) = -1
    · refine hn _ _ _ _ fs r 0 (GI_nx g hp2 (by rw [t1, k2]; exact hr) (by rw [t1, k1]) b1 e s1 s2 (by omega)) ?_
      have z2 : bz bk (p + 1) = 0 := bz_0 (by rw [t1]; exact k4)
      unfold gm
      omega
    · exact hs _ _ _ _ b1 e
  have j2 : ∀ B1, GS B0 B1 fu → SE B B1 → pq d 53 27 [some (.inr (.inr 39)), some (.inl fu), some (.inl ((B0 59) p.toNat)), some (.inl (top + (-1 : Int))), some (.inl base), none, none, none, none, none] [] (A, B1, Y, K, T) (qV Q) := by
    intro B1 b1 b2
    obtain ⟨s1, s2, s3⟩ := b2
    by_cases e : (B1 39 52) = -1
    · refine hn _ _ _ _ fs r 0 (GI_jp g (by omega) (by omega) (by rw [o6 (by omega)]; exact hr) o2 b1 e s1 s2 (by omega)) ?_
      have z2 : bz bk ((B0 59) p.toNat) = 0 := bz_0 o3
      unfold gm
      omega
    · exact hs _ _ _ _ b1 e
  refine pq_of 29 [(27, [5, 6, 7, 8, 9])] [731] ?_
  show ((0 ≤ ((p + (1 : Int)) - (1 : Int)) ∧ ((p + (1 : Int)) - (1 : Int)) < (12000 : Int)) ∧ ((0 ≤ (top + (-1 : Int)) ∧ (top + (-1 : Int)) < (4000 : Int)) ∧ ((-2147483648 ≤ (B 64 ((top + (-1 : Int))).toNat) ∧ (B 64 ((top + (-1 : Int))).toNat) < 2147483648) ∧ ((B 64 ((top + (-1 : Int))).toNat) = (0 : Int) → (∀ cv1 : Int, -2147483648 ≤ cv1 → cv1 < 2147483648 → (0 < d ∧ pzV (d - 1) 51 [.inr (.inr (39 : Nat)), .inl cv1] (A, B, Y, K, T) (fun Av2 Bv2 Yv2 Kv2 Tv2 => ((0 ≤ (top + (-1 : Int)) ∧ (top + (-1 : Int)) < (4000 : Int)) ∧ ((-2147483648 ≤ (Bv2 64 ((top + (-1 : Int))).toNat) ∧ (Bv2 64 ((top + (-1 : Int))).toNat) < 2147483648) ∧ ((Bv2 64 ((top + (-1 : Int))).toNat) ≠ (0 : Int) → pq d 53 27 [some (.inr (.inr (39 : Nat))), some (.inl fu), some (.inl (p + (1 : Int))), some (.inl (top + (-1 : Int))), some (.inl base), none, none, none, none, none] [] (Av2, Bv2, Yv2, Kv2, Tv2) (qV Q)) ∧ ((Bv2 64 ((top + (-1 : Int))).toNat) = (0 : Int) → pq d 53 27 [some (.inr (.inr (39 : Nat))), some (.inl fu), some (.inl ((B0 59) p.toNat)), some (.inl (top + (-1 : Int))), some (.inl base), none, none, none, none, none] [] (Av2, Bv2, Yv2, Kv2, Tv2) (qV Q)))))))) ∧ ((B 64 ((top + (-1 : Int))).toNat) ≠ (0 : Int) → (∀ cv3 : Int, -2147483648 ≤ cv3 → cv3 < 2147483648 → (0 < d ∧ pzV (d - 1) 51 [.inr (.inr (39 : Nat)), .inl cv3] (A, B, Y, K, T) (fun Av4 Bv4 Yv4 Kv4 Tv4 => ((0 ≤ (top + (-1 : Int)) ∧ (top + (-1 : Int)) < (4000 : Int)) ∧ ((-2147483648 ≤ (Bv4 64 ((top + (-1 : Int))).toNat) ∧ (Bv4 64 ((top + (-1 : Int))).toNat) < 2147483648) ∧ ((Bv4 64 ((top + (-1 : Int))).toNat) ≠ (0 : Int) → pq d 53 27 [some (.inr (.inr (39 : Nat))), some (.inl fu), some (.inl (p + (1 : Int))), some (.inl (top + (-1 : Int))), some (.inl base), none, none, none, none, none] [] (Av4, Bv4, Yv4, Kv4, Tv4) (qV Q)) ∧ ((Bv4 64 ((top + (-1 : Int))).toNat) = (0 : Int) → pq d 53 27 [some (.inr (.inr (39 : Nat))), some (.inl fu), some (.inl ((B0 59) p.toNat)), some (.inl (top + (-1 : Int))), some (.inl base), none, none, none, none, none] [] (Av4, Bv4, Yv4, Kv4, Tv4) (qV Q)))))))))))
  refine ⟨by omega, by omega, (g10 _).2.2, fun _ c c1 c2 => ⟨by omega, m_tell g0 ⟨c1, c2⟩ (fun B1 b1 b2 b3 b4 => ⟨by omega, (b1.2.1 _).2.2, fun _ => j1 B1 b1 b2, fun _ => j2 B1 b1 b2⟩)⟩, fun _ c c1 c2 => ⟨by omega, m_tell g0 ⟨c1, c2⟩ (fun B1 b1 b2 b3 b4 => ⟨by omega, (b1.2.1 _).2.2, fun _ => j1 B1 b1 b2, fun _ => j2 B1 b1 b2⟩)⟩⟩
set_option maxRecDepth 100000 in
set_option maxHeartbeats 4000000 in
theorem n_go {Q : zF → zF → zF → Nat → zT → Prop} (hd : 4 ≤ d) (hfu : 0 ≤ fu ∧ fu ≤ 20000) (hN : (B0 39 38) ≤ 12000) (hD : mD B0) (f : FI (B0 58) (B0 59) (B0 39 38) (B0 39 17) (B0 39 13) (B0 54) (B0 55) (B0 56) E ht rg bk) (g : GI B0 B fu E ht rg bk p top base fs r h) (hn : ∀ B' p' top' base' fs' r' h', GI B0 B' fu E ht rg bk p' top' base' fs' r' h' → gm B0 B' fu bk p' < gm B0 B fu bk p → pq d 53 27 [some (.inr (.inr 39)), some (.inl fu), some (.inl p'), some (.inl top'), some (.inl base'), none, none, none, none, none] [] (A, B', Y, K, T) (qV Q)) (hs : ∀ B' p' top' base', GS B0 B' fu → (B' 39 52) ≠ -1 → pq d 53 27 [some (.inr (.inr 39)), some (.inl fu), some (.inl p'), some (.inl top'), some (.inl base'), none, none, none, none, none] [] (A, B', Y, K, T) (qV Q)) (k1 : 1 ≤ p.toNat → ht p.toNat = 0) (kt : okt (B0 58) (B0 59) (B0 39 17) ((B0 39 38) - 1) ht rg bk p.toNat) : pq d 53 754 [some (.inr (.inr 39)), some (.inl fu), some (.inl (p + (1 : Int))), some (.inl top), some (.inl base), some (.inl ((B0 59) p.toNat)), some (.inl ((B0 58) p.toNat)), none, none, none] [] (A, B, Y, K, T) (qV Q) := by
  have gb := GI_b f g
  obtain ⟨g0, g1, ⟨g2, g3, g4⟩, g5, g6, g7, g8, g9⟩ := id g
  obtain ⟨-, g10, g11, g12, g13⟩ := id g0
  obtain ⟨⟨n1, n2, n3⟩, f2, f3, f4, f5, f6, f7, f8⟩ := id f
  have t1 : (p + (1 : Int)).toNat = p.toNat + 1 := by omega
  obtain ⟨o1, o2, o3, o4, o5, o6, o7⟩ := kt
  have h0 : h = 0 := by
    rcases g6 with ⟨q1, q2, q3⟩ | ⟨q1, q2, q3⟩
    · exact q3
    · rw [← q3]
      exact k1 (by omega)
  have hr : rg ((B0 59) p.toNat).toNat = r := by
    rcases g6 with ⟨q1, q2, q3⟩ | ⟨q1, q2, q3⟩
    · rw [o7 (by omega)]
      exact q2.symm
    · rw [o6 (by omega)]
      exact q2
  refine pq_of 4 [(27, [5, 6, 7, 8, 9])] [] ?_
  show pq d 53 27 [some (.inr (.inr (39 : Nat))), some (.inl fu), some (.inl ((B0 59) p.toNat)), some (.inl top), some (.inl base), none, none, none, none, none] [] (A, B, Y, K, T) (qV Q)
  refine hn _ _ _ _ fs r 0 (GI_jp g (by omega) (by omega) hr o2 g0 g1 rfl rfl (by omega)) ?_
  have z2 : bz bk ((B0 59) p.toNat) = 0 := bz_0 o3
  unfold gm
  by_cases e : bk p.toNat = 0
  · have z1 : bz bk p = 0 := bz_0 e
    have := o4 e
    omega
  · have z1 : bz bk p = 1 := bz_1 e
    omega
set_option maxRecDepth 100000 in
set_option maxHeartbeats 4000000 in
theorem n_body {Q : zF → zF → zF → Nat → zT → Prop} (hd : 4 ≤ d) (hfu : 0 ≤ fu ∧ fu ≤ 20000) (hN : (B0 39 38) ≤ 12000) (hD : mD B0) (f : FI (B0 58) (B0 59) (B0 39 38) (B0 39 17) (B0 39 13) (B0 54) (B0 55) (B0 56) E ht rg bk) (g : GI B0 B fu E ht rg bk p top base fs r h) (hn : ∀ B' p' top' base' fs' r' h', GI B0 B' fu E ht rg bk p' top' base' fs' r' h' → gm B0 B' fu bk p' < gm B0 B fu bk p → pq d 53 27 [some (.inr (.inr 39)), some (.inl fu), some (.inl p'), some (.inl top'), some (.inl base'), none, none, none, none, none] [] (A, B', Y, K, T) (qV Q)) (hs : ∀ B' p' top' base', GS B0 B' fu → (B' 39 52) ≠ -1 → pq d 53 27 [some (.inr (.inr 39)), some (.inl fu), some (.inl p'), some (.inl top'), some (.inl base'), none, none, none, none, none] [] (A, B', Y, K, T) (qV Q))  : pq d 53 27 [some (.inr (.inr 39)), some (.inl fu), some (.inl p), some (.inl top), some (.inl base), none, none, none, none, none] [] (A, B, Y, K, T) (qV Q) := by
  have gb := GI_b f g
  obtain ⟨g0, g1, ⟨g2, g3, g4⟩, g5, g6, g7, g8, g9⟩ := id g
  obtain ⟨-, g10, g11, g12, g13⟩ := id g0
  obtain ⟨⟨n1, n2, n3⟩, f2, f3, f4, f5, f6, f7, f8⟩ := id f
  have t1 : (p + (1 : Int)).toNat = p.toNat + 1 := by omega
  have e58 : B 58 = B0 58 := g0.1.1 58 (by omega) (by omega) (by omega) (by omega) (by omega)
  have e59 : B 59 = B0 59 := g0.1.1 59 (by omega) (by omega) (by omega) (by omega) (by omega)
  have hW := Wo_r f gb.1.1
  have tb := hD.1
  refine pq_of 17 [(132, []), (146, []), (184, []), (227, []), (246, []), (268, []), (308, []), (372, []), (438, []), (480, []), (614, []), (674, []), (703, []), (754, []), (760, [])] [] ?_
  show ((-2147483648 ≤ (B 39 52) ∧ (B 39 52) < 2147483648) ∧ (-2147483648 ≤ (-1 : Int) ∧ (-1 : Int) < 2147483648) ∧ ((B 39 52) ≠ (-1 : Int) → Q A B Y K T) ∧ ((B 39 52) = (-1 : Int) → ((0 ≤ p ∧ p < (12000 : Int)) ∧ ((0 ≤ p ∧ p < (12000 : Int)) ∧ ((-2147483648 ≤ (B 58 (p).toNat) ∧ (B 58 (p).toNat) < 2147483648) ∧ (((B 58 (p).toNat) < (1 : Int) ∨ (15 : Int) < (B 58 (p).toNat)) → pq d 53 760 [some (.inr (.inr (39 : Nat))), some (.inl fu), some (.inl (p + (1 : Int))), some (.inl top), some (.inl base), some (.inl (B 59 (p).toNat)), some (.inl (B 58 (p).toNat)), none, none, none] [] (A, B, Y, K, T) (qV Q)) ∧ ((B 58 (p).toNat) = (1 : Int) → pq d 53 132 [some (.inr (.inr (39 : Nat))), some (.inl fu), some (.inl (p + (1 : Int))), some (.inl top), some (.inl base), some (.inl (B 59 (p).toNat)), some (.inl (B 58 (p).toNat)), none, none, none] [] (A, B, Y, K, T) (qV Q)) ∧ ((B 58 (p).toNat) = (2 : Int) → pq d 53 146 [some (.inr (.inr (39 : Nat))), some (.inl fu), some (.inl (p + (1 : Int))), some (.inl top), some (.inl base), some (.inl (B 59 (p).toNat)), some (.inl (B 58 (p).toNat)), none, none, none] [] (A, B, Y, K, T) (qV Q)) ∧ ((B 58 (p).toNat) = (3 : Int) → pq d 53 146 [some (.inr (.inr (39 : Nat))), some (.inl fu), some (.inl (p + (1 : Int))), some (.inl top), some (.inl base), some (.inl (B 59 (p).toNat)), some (.inl (B 58 (p).toNat)), none, none, none] [] (A, B, Y, K, T) (qV Q)) ∧ ((B 58 (p).toNat) = (4 : Int) → pq d 53 184 [some (.inr (.inr (39 : Nat))), some (.inl fu), some (.inl (p + (1 : Int))), some (.inl top), some (.inl base), some (.inl (B 59 (p).toNat)), some (.inl (B 58 (p).toNat)), none, none, none] [] (A, B, Y, K, T) (qV Q)) ∧ ((B 58 (p).toNat) = (5 : Int) → pq d 53 227 [some (.inr (.inr (39 : Nat))), some (.inl fu), some (.inl (p + (1 : Int))), some (.inl top), some (.inl base), some (.inl (B 59 (p).toNat)), some (.inl (B 58 (p).toNat)), none, none, none] [] (A, B, Y, K, T) (qV Q)) ∧ ((B 58 (p).toNat) = (6 : Int) → pq d 53 246 [some (.inr (.inr (39 : Nat))), some (.inl fu), some (.inl (p + (1 : Int))), some (.inl top), some (.inl base), some (.inl (B 59 (p).toNat)), some (.inl (B 58 (p).toNat)), none, none, none] [] (A, B, Y, K, T) (qV Q)) ∧ ((B 58 (p).toNat) = (7 : Int) → pq d 53 268 [some (.inr (.inr (39 : Nat))), some (.inl fu), some (.inl (p + (1 : Int))), some (.inl top), some (.inl base), some (.inl (B 59 (p).toNat)), some (.inl (B 58 (p).toNat)), none, none, none] [] (A, B, Y, K, T) (qV Q)) ∧ ((B 58 (p).toNat) = (8 : Int) → pq d 53 308 [some (.inr (.inr (39 : Nat))), some (.inl fu), some (.inl (p + (1 : Int))), some (.inl top), some (.inl base), some (.inl (B 59 (p).toNat)), some (.inl (B 58 (p).toNat)), none, none, none] [] (A, B, Y, K, T) (qV Q)) ∧ ((B 58 (p).toNat) = (9 : Int) → pq d 53 372 [some (.inr (.inr (39 : Nat))), some (.inl fu), some (.inl (p + (1 : Int))), some (.inl top), some (.inl base), some (.inl (B 59 (p).toNat)), some (.inl (B 58 (p).toNat)), none, none, none] [] (A, B, Y, K, T) (qV Q)) ∧ ((B 58 (p).toNat) = (10 : Int) → pq d 53 438 [some (.inr (.inr (39 : Nat))), some (.inl fu), some (.inl (p + (1 : Int))), some (.inl top), some (.inl base), some (.inl (B 59 (p).toNat)), some (.inl (B 58 (p).toNat)), none, none, none] [] (A, B, Y, K, T) (qV Q)) ∧ ((B 58 (p).toNat) = (11 : Int) → pq d 53 480 [some (.inr (.inr (39 : Nat))), some (.inl fu), some (.inl (p + (1 : Int))), some (.inl top), some (.inl base), some (.inl (B 59 (p).toNat)), some (.inl (B 58 (p).toNat)), none, none, none] [] (A, B, Y, K, T) (qV Q)) ∧ ((B 58 (p).toNat) = (12 : Int) → pq d 53 614 [some (.inr (.inr (39 : Nat))), some (.inl fu), some (.inl (p + (1 : Int))), some (.inl top), some (.inl base), some (.inl (B 59 (p).toNat)), some (.inl (B 58 (p).toNat)), none, none, none] [] (A, B, Y, K, T) (qV Q)) ∧ ((B 58 (p).toNat) = (13 : Int) → pq d 53 674 [some (.inr (.inr (39 : Nat))), some (.inl fu), some (.inl (p + (1 : Int))), some (.inl top), some (.inl base), some (.inl (B 59 (p).toNat)), some (.inl (B 58 (p).toNat)), none, none, none] [] (A, B, Y, K, T) (qV Q)) ∧ ((B 58 (p).toNat) = (14 : Int) → pq d 53 703 [some (.inr (.inr (39 : Nat))), some (.inl fu), some (.inl (p + (1 : Int))), some (.inl top), some (.inl base), some (.inl (B 59 (p).toNat)), some (.inl (B 58 (p).toNat)), none, none, none] [] (A, B, Y, K, T) (qV Q)) ∧ ((B 58 (p).toNat) = (15 : Int) → pq d 53 754 [some (.inr (.inr (39 : Nat))), some (.inl fu), some (.inl (p + (1 : Int))), some (.inl top), some (.inl base), some (.inl (B 59 (p).toNat)), some (.inl (B 58 (p).toNat)), none, none, none] [] (A, B, Y, K, T) (qV Q)) ∧ True)))))
  rw [e58, e59]
  by_cases hl : p = (B0 39 38) - 1
  · have ho : (B0 58) p.toNat = 16 := by rw [hl]; exact f2
    refine ⟨g13, by omega, fun z => absurd g1 z, fun _ => ⟨by omega, by omega, by omega, fun _ => ?_, fun z => ?_, fun z => ?_, fun z => ?_, fun z => ?_, fun z => ?_, fun z => ?_, fun z => ?_, fun z => ?_, fun z => ?_, fun z => ?_, fun z => ?_, fun z => ?_, fun z => ?_, fun z => ?_, fun z => ?_, trivial⟩⟩ <;> first | (exfalso; omega) | skip
    refine pq_of 4 [(27, [5, 6, 7, 8, 9])] [] ?_
    show pq d 53 27 [some (.inr (.inr (39 : Nat))), some (.inl fu), some (.inl (p + (1 : Int))), some (.inl top), some (.inl base), none, none, none, none, none] [] (A, (zu B 39 52 (0 : Int)), Y, K, T) (qV Q)
    exact hs _ _ _ _ (GS_end g0 (by omega)) (by show (0 : Int) ≠ -1; omega)
  · have hp2 : p < (B0 39 38) - 1 := by omega
    rcases f3 p.toNat (by omega) with ⟨k0, k2, k3, k4, k5⟩ | ⟨k0, k1, k2, k3⟩ | ⟨k0, k1, k2, k3, k4, k5, k6, k7⟩ | ⟨k0, k1, k2⟩
    · have hr : rg p.toNat = r := by omega
      have hh : ht p.toNat = h := by omega
      have kw := ok1_w k0
      have nx : ∀ top', (B0 58) p.toNat ≠ 13 → top' = base + Wo (B0 39 17) (B0 56) r + ht (p.toNat + 1) → ∀ B', GS B0 B' fu → SE B B' → pq d 53 27 [some (.inr (.inr 39)), some (.inl fu), some (.inl (p + (1 : Int))), some (.inl top'), some (.inl base), none, none, none, none, none] [] (A, B', Y, K, T) (qV Q) := fun top' w13 et B' b1 b2 => n_ok1 hd hfu hN hD f g hn hs (by omega) hp2 k2 k3 (k4 w13) et b1 b2
      unfold ok1 at k0
      refine ⟨g13, by omega, fun z => absurd g1 z, fun _ => ⟨by omega, by omega, by omega, fun z => ?_, fun z => ?_, fun z => ?_, fun z => ?_, fun z => ?_, fun z => ?_, fun z => ?_, fun z => ?_, fun z => ?_, fun z => ?_, fun z => ?_, fun z => ?_, fun z => ?_, fun z => ?_, fun z => ?_, fun z => ?_, trivial⟩⟩
      · exfalso; omega
      · obtain ⟨q1, q2⟩ : ir ((B0 59) p.toNat) ∧ ht (p.toNat + 1) = ht p.toNat + 1 := by omega
        exact o_1 g0 (by omega) q1 (nx _ (by omega) (by omega))
      · obtain ⟨q1, q2⟩ : (0 ≤ (B0 59) p.toNat ∧ (B0 59) p.toNat < 2560) ∧ ht (p.toNat + 1) = ht p.toNat + 1 := by omega
        exact o_2 g0 (by omega) (Or.inl ⟨z, q1⟩) (nx _ (by omega) (by omega))
      · obtain ⟨q1, q2⟩ : (0 ≤ (B0 59) p.toNat ∧ (B0 59) p.toNat < 12) ∧ ht (p.toNat + 1) = ht p.toNat + 1 := by omega
        exact o_2 g0 (by omega) (Or.inr ⟨z, by omega⟩) (nx _ (by omega) (by omega))
      · obtain ⟨q1, q2, q3⟩ : (0 ≤ (B0 59) p.toNat ∧ (B0 59) p.toNat < (B0 39 13)) ∧ 1 ≤ ht p.toNat ∧ ht (p.toNat + 1) = ht p.toNat := by omega
        exact o_4 (by omega) g0 hD q1 (by omega) (nx _ (by omega) (by omega))
      · obtain ⟨q1, q2, q3⟩ : (0 ≤ (B0 59) p.toNat ∧ (B0 59) p.toNat < 2560) ∧ 1 ≤ ht p.toNat ∧ ht (p.toNat + 1) = ht p.toNat - 1 := by omega
        exact o_5 g0 (by omega) q1 (nx _ (by omega) (by omega))
      · obtain ⟨q1, q2, q3⟩ : (0 ≤ (B0 59) p.toNat ∧ (B0 59) p.toNat < 12) ∧ 1 ≤ ht p.toNat ∧ ht (p.toNat + 1) = ht p.toNat - 1 := by omega
        exact o_6 g0 (by omega) (by omega) (nx _ (by omega) (by omega))
      · obtain ⟨q1, q2, q3⟩ : (0 ≤ (B0 59) p.toNat ∧ (B0 59) p.toNat < (B0 39 13)) ∧ 2 ≤ ht p.toNat ∧ ht (p.toNat + 1) = ht p.toNat - 2 := by omega
        exact o_7 (by omega) g0 hD q1 (by omega) (nx _ (by omega) (by omega))
      · obtain ⟨q1, q2, q3⟩ : isop ((B0 59) p.toNat) ∧ 2 ≤ ht p.toNat ∧ ht (p.toNat + 1) = ht p.toNat - 1 := by
          rcases k0 with k | k | k | k | k | k | k | k | k | k | k | k <;> first | exact k.2 | (exfalso; have := k.1; omega)
        exact o_8 (by omega) g0 (by omega) q1 (nx _ (by omega) (by omega))
      · obtain ⟨q1, q2, q3⟩ : ir ((B0 59) p.toNat) ∧ 1 ≤ ht p.toNat ∧ ht (p.toNat + 1) = ht p.toNat := by omega
        exact o_9 g0 (by omega) q1 (nx _ (by omega) (by omega))
      · obtain ⟨q2, q3⟩ : 3 ≤ ht p.toNat ∧ ht (p.toNat + 1) = ht p.toNat - 2 := by omega
        exact o_10 g0 (by omega) (nx _ (by omega) (by omega))
      · have q1 := ok1_w13 (show ok1 ((B0 58) p.toNat) _ (B0 39 13) _ (B0 55) _ _ from k0) z
        exact n_call hd hfu hN hD f g hn hs (by omega) hp2 q1 k2 k3 (k4 (by omega))
      · exfalso; omega
      · have q3 : ht (p.toNat + 1) = ht p.toNat := by omega
        exact n_step hd hfu hN hD f g hn hs (by omega) hp2 q3 k2
      · exfalso; omega
      · exfalso; omega
    · refine ⟨g13, by omega, fun z => absurd g1 z, fun _ => ⟨by omega, by omega, by omega, fun z => ?_, fun z => ?_, fun z => ?_, fun z => ?_, fun z => ?_, fun z => ?_, fun z => ?_, fun z => ?_, fun z => ?_, fun z => ?_, fun z => ?_, fun z => ?_, fun z => ?_, fun z => ?_, fun z => ?_, fun z => ?_, trivial⟩⟩ <;> first | (exfalso; omega) | skip
      exact n_back hd hfu hN hD f g hn hs (by omega) k1
    · refine ⟨g13, by omega, fun z => absurd g1 z, fun _ => ⟨by omega, by omega, by omega, fun z => ?_, fun z => ?_, fun z => ?_, fun z => ?_, fun z => ?_, fun z => ?_, fun z => ?_, fun z => ?_, fun z => ?_, fun z => ?_, fun z => ?_, fun z => ?_, fun z => ?_, fun z => ?_, fun z => ?_, fun z => ?_, trivial⟩⟩ <;> first | (exfalso; omega) | skip
      exact n_branch hd hfu hN hD f g hn hs (by omega) hp2 k1 k2 k3 k4 k5 (k7.resolve_left id)
    · refine ⟨g13, by omega, fun z => absurd g1 z, fun _ => ⟨by omega, by omega, by omega, fun z => ?_, fun z => ?_, fun z => ?_, fun z => ?_, fun z => ?_, fun z => ?_, fun z => ?_, fun z => ?_, fun z => ?_, fun z => ?_, fun z => ?_, fun z => ?_, fun z => ?_, fun z => ?_, fun z => ?_, fun z => ?_, trivial⟩⟩ <;> first | (exfalso; omega) | skip
      exact n_go hd hfu hN hD f g hn hs k1 (k2.resolve_left id)
set_option maxRecDepth 100000 in
set_option maxHeartbeats 4000000 in
theorem m_go {Q : zF → zF → zF → Nat → zT → Prop} (hd : 4 ≤ d) (hfu : 0 ≤ fu ∧ fu ≤ 20000) (hN : (B 39 38) ≤ 12000) (hD : mD B) (f : FI (B 58) (B 59) (B 39 38) (B 39 17) (B 39 13) (B 54) (B 55) (B 56) E ht rg bk) (hi : ∀ j, ir ((B 62) j) ∧ ir ((B 63) j) ∧ ir ((B 64) j)) (q : ∀ B', GS B B' fu → Q A B' Y K T) : pzV d 53 [.inr (.inr 39), .inl fu] (A, B, Y, K, T) Q := by
  have hs : ∀ B' p' top' base', GS B B' fu → (B' 39 52) ≠ -1 → pq d 53 27 [some (.inr (.inr 39)), some (.inl fu), some (.inl p'), some (.inl top'), some (.inl base'), none, none, none, none, none] [] (A, B', Y, K, T) (qV Q) := by
    intro B' p' top' base' b1 b2
    refine pq_of 5 [(35, [])] [] ?_
    show ((-2147483648 ≤ (B' 39 52) ∧ (B' 39 52) < 2147483648) ∧ (-2147483648 ≤ (-1 : Int) ∧ (-1 : Int) < 2147483648) ∧ ((B' 39 52) ≠ (-1 : Int) → Q A B' Y K T) ∧ ((B' 39 52) = (-1 : Int) → pq d 53 35 [some (.inr (.inr (39 : Nat))), some (.inl fu), some (.inl p'), some (.inl top'), some (.inl base'), none, none, none, none, none] [] (A, B', Y, K, T) (qV Q)))
    exact ⟨b1.2.2.2.2, by omega, fun _ => q _ b1, fun z => absurd z b2⟩
  have lp : ∀ (n : Nat) B' p' top' base' fs' r' h', GI B B' fu E ht rg bk p' top' base' fs' r' h' → gm B B' fu bk p' < (n : Int) → pq d 53 27 [some (.inr (.inr 39)), some (.inl fu), some (.inl p'), some (.inl top'), some (.inl base'), none, none, none, none, none] [] (A, B', Y, K, T) (qV Q) := by
    intro n
    induction n with
    | zero =>
      intro B' p' top' base' fs' r' h' g hm
      exfalso
      have gb := GI_b f g
      obtain ⟨g0, g1, g2, g5, g6⟩ := id g
      have z := @bz_r p' bk
      have := g0.2.2.2.1
      unfold gm at hm
      omega
    | succ n ih =>
      intro B' p' top' base' fs' r' h' g hm
      exact n_body hd hfu hN hD f g (fun B2 p2 top2 base2 fs2 r2 h2 g2 m2 => ih B2 p2 top2 base2 fs2 r2 h2 g2 (by omega)) hs
  refine pzV_of 18 [(27, [])] [] ?_
  show pq d 53 27 [some (.inr (.inr (39 : Nat))), some (.inl fu), some (.inl (0 : Int)), some (.inl (0 : Int)), some (.inl (0 : Int)), none, none, none, none, none] [] (A, (zu (zu (zu (zu B 39 50 (0 : Int)) 39 51 (0 : Int)) 39 52 (-1 : Int)) 39 54 (0 : Int)), Y, K, T) (qV Q)
  obtain ⟨⟨n1, n2, n3⟩, f2, f3, f4, f5, f6, f7, f8⟩ := id f
  have hb : GS B (zu (zu (zu (zu B 39 50 0) 39 51 0) 39 52 (-1)) 39 54 0) fu := ⟨⟨fun i i1 i2 i3 i4 i5 => by rw [zu_ce _ _ _ i1, zu_ce _ _ _ i1, zu_ce _ _ _ i1, zu_ce _ _ _ i1], fun j j1 j2 j3 j4 => by rw [zu_sl _ _ j4, zu_sl _ _ j3, zu_sl _ _ j2, zu_sl _ _ j1]⟩, hi, by show (0 : Int) ≤ 0 ∧ (0 : Int) ≤ 4000; omega, by show (0 : Int) ≤ 0 ∧ (0 : Int) ≤ fu; omega, by show ir (-1); omega⟩
  refine lp 5000000000 _ 0 0 0 [] (B 39 17) 0 ⟨hb, rfl, ⟨rfl, trivial, rfl, rfl⟩, by omega, Or.inl ⟨rfl, rfl, rfl⟩, ?_, by omega, by omega⟩ ?_
  · have : Wo (B 39 17) (B 56) (B 39 17) = 0 := by unfold Wo; rw [if_neg (by omega)]
    omega
  · have z := @bz_r 0 bk
    show (2 * (fu - 0) + bz bk 0) * 120000 + 0 * 12001 + ((B 39 38) - 0) < _
    omega
end GO1
