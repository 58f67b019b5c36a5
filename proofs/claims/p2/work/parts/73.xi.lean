/-! The class: the invariant of its cells -/
/-- ranges: cell, slot (none: each), least, greatest -/
def crt : List (Nat × Option Nat × Int × Int) := [(0, some 1, 0, 3000), (0, some 8, 0, 20000), (0, some 9, 0, 1), (0, some 10, -2147483648, 2147483647), (1, none, 0, 65535), (3, none, 0, 65535), (2, some 1, 0, 3000), (2, some 12, 0, 3000), (2, some 13, 0, 3000), (2, some 15, 0, 1), (4, some 4, 0, 40), (10, some 4, 0, 6), (25, some 4, 0, 12), (5, none, 0, 3000), (6, none, -3000, 3000), (7, none, 0, 1), (11, none, 0, 3000), (12, none, -3000, 3000), (13, none, 0, 1), (26, none, 0, 3000), (27, none, -3000, 3000), (28, none, 0, 1), (8, none, -2147483648, 2147483647), (14, none, -2147483648, 2147483647), (15, none, 0, 12), (16, none, 0, 1), (17, none, -2147483648, 2147483647), (18, none, -2147483648, 2147483647), (19, some 3, 0, 1), (19, some 4, -1, 3000), (19, some 5, 0, 1), (19, some 6, 0, 48100), (19, some 7, 0, 48100), (19, some 8, 0, 3000), (19, some 10, 0, 3000), (20, some 4, 0, 3001), (20, some 6, 0, 3000), (20, some 7, 0, 3000), (20, some 8, -2147483648, 2147483647), (22, none, 0, 3000), (23, none, -3000, 3000), (24, none, -2147483648, 2147483647), (29, none, -2147483648, 2147483647), (30, none, -2147483648, 2147483647), (31, some 3, 0, 4000), (31, some 4, 0, 20000), (31, some 5, -2147483648, 2147483647), (31, some 7, 0, 3000), (31, some 8, -2147483648, 2147483647), (31, some 9, 0, 20000), (32, none, -2147483648, 2147483647), (33, none, -2147483648, 2147483647), (34, none, -2147483648, 2147483647), (35, some 3, 0, 4000), (35, some 4, 0, 20000), (35, some 5, -2147483648, 2147483647), (35, some 7, 0, 3000), (35, some 8, -2147483648, 2147483647), (35, some 9, 0, 20000), (36, none, -2147483648, 2147483647), (37, none, -2147483648, 2147483647), (38, none, -2147483648, 2147483647)]
def crl : List (Nat × Option Nat × Int × Int) → Nat → Nat → Option (Int × Int)
  | [], _, _ => none
  | q :: l, c, j => bif Nat.beq q.1 c && (match q.2.1 with
    | none => true
    | some k => Nat.beq k j) then some q.2.2 else crl l c j
def cok (c j : Nat) (v : Int) : Prop := match crl crt c j with
  | some p => p.1 ≤ v ∧ v ≤ p.2
  | none => True
/-- cells that more than a range speaks of -/
def csp (c k : Nat) : Bool := (Nat.beq c 5 || (Nat.beq c 6 || (Nat.beq c 11 || (Nat.beq c 12 || (Nat.beq c 22 || (Nat.beq c 23 || (Nat.beq c 26 || (Nat.beq c 27 || Nat.beq c 8)))))))) || ((Nat.beq c 0 && Nat.beq k 1) || ((Nat.beq c 20 && Nat.beq k 4) || ((Nat.beq c 19 && Nat.beq k 6) || (Nat.beq c 4 && Nat.beq k 4))))
def XP (A : zF) : Prop := ∀ j, A 5 j + A 6 j ≤ 3000 ∧ A 11 j + A 12 j ≤ 3000 ∧ A 22 j + A 23 j ≤ 3000 ∧ A 26 j + A 27 j ≤ 3000
/-- what holds of the class: m = 1 while it reads a text, m = 0 else; sz characters wait -/
def XI (m : Nat) (sz : Int) (A : zF) (K : Nat) (T : zT) : Prop :=
  (∀ c j, cok c j (A c j)) ∧ XP A ∧ A 0 1 = sz ∧ (1000 ≤ K ∧ K < 1039) ∧ (∀ j r, T j = some r → 1000 ≤ r ∧ r < 1039) ∧ (∀ j : Nat, (j : Int) < A 20 4 → T j ≠ none) ∧ (m = 1 → 1 ≤ A 20 4) ∧ ((m = 0 ∨ A 19 6 = 0) → ∀ j : Nat, (j : Int) < A 4 4 → A 8 j ≤ 64)
section XIS
variable {m c k j : Nat} {sz v : Int} {A : zF} {K : Nat} {T : zT} {g : Nat → Int}
theorem XI_rK (h : XI m sz A K T) : 1000 ≤ K ∧ K < 1039 := h.2.2.2.1
theorem XI_T1 {i : Int} (h : XI m sz A K T) (h0 : 0 ≤ i) (h1 : i < A 20 4) : T i.toNat ≠ none := h.2.2.2.2.2.1 _ (by omega)
theorem XI_T2 (h : XI m sz A K T) {r : Nat} (e : T j = some r) : 1000 ≤ r ∧ r < 1039 := h.2.2.2.2.1 _ _ e
theorem XI_p_5 (h : XI m sz A K T) (j : Nat) : A 5 j + A 6 j ≤ 3000 := (h.2.1 j).1
theorem XI_p_11 (h : XI m sz A K T) (j : Nat) : A 11 j + A 12 j ≤ 3000 := (h.2.1 j).2.1
theorem XI_p_22 (h : XI m sz A K T) (j : Nat) : A 22 j + A 23 j ≤ 3000 := (h.2.1 j).2.2.1
theorem XI_p_26 (h : XI m sz A K T) (j : Nat) : A 26 j + A 27 j ≤ 3000 := (h.2.1 j).2.2.2
theorem XI_sz (h : XI m sz A K T) : A 0 1 = sz := h.2.2.1
theorem XI_tc (h : XI 1 sz A K T) : 1 ≤ A 20 4 := h.2.2.2.2.2.2.1 rfl
theorem XI_64 {i : Int} (h : XI 0 sz A K T) (h0 : 0 ≤ i) (h1 : i < A 4 4) : A 8 i.toNat ≤ 64 := h.2.2.2.2.2.2.2 (Or.inl rfl) _ (by omega)
theorem XI_K {k : Nat} (h : XI m sz A K T) (hk : 1000 ≤ k ∧ k < 1039) : XI m sz A k T := ⟨h.1, h.2.1, h.2.2.1, hk, h.2.2.2.2⟩
theorem XI_w (h : XI m sz A K T) (hc : cok c k v) (hs : csp c k = false) : XI m sz (zu A c k v) K T := by
  obtain ⟨h1, h2, h3, h4, h5, h6, h7, h8⟩ := h
  obtain ⟨s1, s2⟩ := Bool.or_eq_false_iff.mp hs
  obtain ⟨e5, s1⟩ := Bool.or_eq_false_iff.mp s1
  obtain ⟨e6, s1⟩ := Bool.or_eq_false_iff.mp s1
  obtain ⟨e11, s1⟩ := Bool.or_eq_false_iff.mp s1
  obtain ⟨e12, s1⟩ := Bool.or_eq_false_iff.mp s1
  obtain ⟨e22, s1⟩ := Bool.or_eq_false_iff.mp s1
  obtain ⟨e23, s1⟩ := Bool.or_eq_false_iff.mp s1
  obtain ⟨e26, s1⟩ := Bool.or_eq_false_iff.mp s1
  obtain ⟨e27, e8⟩ := Bool.or_eq_false_iff.mp s1
  obtain ⟨t1, s2⟩ := Bool.or_eq_false_iff.mp s2
  obtain ⟨t2, s2⟩ := Bool.or_eq_false_iff.mp s2
  obtain ⟨t3, t4⟩ := Bool.or_eq_false_iff.mp s2
  have ce : ∀ i, Nat.beq c i = false → ∀ j, zu A c k v i j = A i j := by
    intro i hi j
    rw [zu_ap, if_neg]
    rintro ⟨rfl, _⟩
    rw [Nat.beq_refl] at hi
    cases hi
  have cs : ∀ i q, (Nat.beq c i && Nat.beq k q) = false → zu A c k v i q = A i q := by
    intro i q hi
    rw [zu_ap, if_neg]
    rintro ⟨rfl, rfl⟩
    rw [Nat.beq_refl, Nat.beq_refl] at hi
    cases hi
  refine ⟨fun i j => ?_, fun j => ?_, ?_, h4, h5, fun j hj => ?_, fun hm => ?_, fun hm j hj => ?_⟩
  · rw [zu_ap]
    split
    · rename_i e
      rw [e.1, e.2]
      exact hc
    · exact h1 i j
  · rw [ce 5 e5, ce 6 e6, ce 11 e11, ce 12 e12, ce 22 e22, ce 23 e23, ce 26 e26, ce 27 e27]
    exact h2 j
  · rw [cs 0 1 t1]; exact h3
  · rw [cs 20 4 t2] at hj; exact h6 j hj
  · rw [cs 20 4 t2]; exact h7 hm
  · rw [cs 19 6 t3] at hm
    rw [cs 4 4 t4] at hj
    rw [ce 8 e8]
    exact h8 hm j hj
theorem XI_a (h : XI m sz A K T) (hc : ∀ j, cok c j (g j)) (hs : csp c 99 = false) (hs2 : (Nat.beq c 0 || (Nat.beq c 20 || (Nat.beq c 19 || Nat.beq c 4))) = false) : XI m sz (zua A c g) K T := by
  obtain ⟨h1, h2, h3, h4, h5, h6, h7, h8⟩ := h
  obtain ⟨s1, _⟩ := Bool.or_eq_false_iff.mp hs
  obtain ⟨e5, s1⟩ := Bool.or_eq_false_iff.mp s1
  obtain ⟨e6, s1⟩ := Bool.or_eq_false_iff.mp s1
  obtain ⟨e11, s1⟩ := Bool.or_eq_false_iff.mp s1
  obtain ⟨e12, s1⟩ := Bool.or_eq_false_iff.mp s1
  obtain ⟨e22, s1⟩ := Bool.or_eq_false_iff.mp s1
  obtain ⟨e23, s1⟩ := Bool.or_eq_false_iff.mp s1
  obtain ⟨e26, s1⟩ := Bool.or_eq_false_iff.mp s1
  obtain ⟨e27, e8⟩ := Bool.or_eq_false_iff.mp s1
  obtain ⟨t1, s2⟩ := Bool.or_eq_false_iff.mp hs2
  obtain ⟨t2, s2⟩ := Bool.or_eq_false_iff.mp s2
  obtain ⟨t3, t4⟩ := Bool.or_eq_false_iff.mp s2
  have ce : ∀ i, Nat.beq c i = false → ∀ j, zua A c g i j = A i j := by
    intro i hi j
    rw [zua_ap, if_neg]
    rintro rfl
    rw [Nat.beq_refl] at hi
    cases hi
  refine ⟨fun i j => ?_, fun j => ?_, ?_, h4, h5, fun j hj => ?_, fun hm => ?_, fun hm j hj => ?_⟩
  · rw [zua_ap]
    split
    · rename_i e
      rw [e]
      exact hc j
    · exact h1 i j
  · rw [ce 5 e5, ce 6 e6, ce 11 e11, ce 12 e12, ce 22 e22, ce 23 e23, ce 26 e26, ce 27 e27]
    exact h2 j
  · rw [ce 0 t1]; exact h3
  · rw [ce 20 t2] at hj; exact h6 j hj
  · rw [ce 20 t2]; exact h7 hm
  · rw [ce 19 t3] at hm
    rw [ce 4 t4] at hj
    rw [ce 8 e8]
    exact h8 hm j hj
theorem XI_r_0_1 (h : XI m sz A K T) : 0 ≤ A 0 1 ∧ A 0 1 ≤ 3000 := h.1 0 1
theorem XI_r_0_8 (h : XI m sz A K T) : 0 ≤ A 0 8 ∧ A 0 8 ≤ 20000 := h.1 0 8
theorem XI_w_0_8 (h : XI m sz A K T) (h1 : 0 ≤ v) (h2 : v ≤ 20000) : XI m sz (zu A 0 8 v) K T := XI_w h ⟨h1, h2⟩ rfl
theorem XI_r_0_9 (h : XI m sz A K T) : 0 ≤ A 0 9 ∧ A 0 9 ≤ 1 := h.1 0 9
theorem XI_w_0_9 (h : XI m sz A K T) (h1 : 0 ≤ v) (h2 : v ≤ 1) : XI m sz (zu A 0 9 v) K T := XI_w h ⟨h1, h2⟩ rfl
theorem XI_r_0_10 (h : XI m sz A K T) : -2147483648 ≤ A 0 10 ∧ A 0 10 ≤ 2147483647 := h.1 0 10
theorem XI_w_0_10 (h : XI m sz A K T) (h1 : -2147483648 ≤ v) (h2 : v ≤ 2147483647) : XI m sz (zu A 0 10 v) K T := XI_w h ⟨h1, h2⟩ rfl
theorem XI_r_1 (h : XI m sz A K T) (j : Nat) : 0 ≤ A 1 j ∧ A 1 j ≤ 65535 := h.1 1 j
theorem XI_w_1 (h : XI m sz A K T) (h1 : 0 ≤ v) (h2 : v ≤ 65535) : XI m sz (zu A 1 j v) K T := XI_w h ⟨h1, h2⟩ rfl
theorem XI_r_3 (h : XI m sz A K T) (j : Nat) : 0 ≤ A 3 j ∧ A 3 j ≤ 65535 := h.1 3 j
theorem XI_w_3 (h : XI m sz A K T) (h1 : 0 ≤ v) (h2 : v ≤ 65535) : XI m sz (zu A 3 j v) K T := XI_w h ⟨h1, h2⟩ rfl
theorem XI_a_3 (h : XI m sz A K T) (h1 : ∀ j, 0 ≤ g j ∧ g j ≤ 65535) : XI m sz (zua A 3 g) K T := XI_a h h1 rfl rfl
theorem XI_r_2_1 (h : XI m sz A K T) : 0 ≤ A 2 1 ∧ A 2 1 ≤ 3000 := h.1 2 1
theorem XI_w_2_1 (h : XI m sz A K T) (h1 : 0 ≤ v) (h2 : v ≤ 3000) : XI m sz (zu A 2 1 v) K T := XI_w h ⟨h1, h2⟩ rfl
theorem XI_w_2_5 (h : XI m sz A K T) : XI m sz (zu A 2 5 v) K T := XI_w h trivial rfl
theorem XI_r_2_12 (h : XI m sz A K T) : 0 ≤ A 2 12 ∧ A 2 12 ≤ 3000 := h.1 2 12
theorem XI_w_2_12 (h : XI m sz A K T) (h1 : 0 ≤ v) (h2 : v ≤ 3000) : XI m sz (zu A 2 12 v) K T := XI_w h ⟨h1, h2⟩ rfl
theorem XI_r_2_13 (h : XI m sz A K T) : 0 ≤ A 2 13 ∧ A 2 13 ≤ 3000 := h.1 2 13
theorem XI_w_2_13 (h : XI m sz A K T) (h1 : 0 ≤ v) (h2 : v ≤ 3000) : XI m sz (zu A 2 13 v) K T := XI_w h ⟨h1, h2⟩ rfl
theorem XI_w_2_14 (h : XI m sz A K T) : XI m sz (zu A 2 14 v) K T := XI_w h trivial rfl
theorem XI_r_2_15 (h : XI m sz A K T) : 0 ≤ A 2 15 ∧ A 2 15 ≤ 1 := h.1 2 15
theorem XI_w_2_15 (h : XI m sz A K T) (h1 : 0 ≤ v) (h2 : v ≤ 1) : XI m sz (zu A 2 15 v) K T := XI_w h ⟨h1, h2⟩ rfl
theorem XI_r_4_4 (h : XI m sz A K T) : 0 ≤ A 4 4 ∧ A 4 4 ≤ 40 := h.1 4 4
theorem XI_r_10_4 (h : XI m sz A K T) : 0 ≤ A 10 4 ∧ A 10 4 ≤ 6 := h.1 10 4
theorem XI_w_10_4 (h : XI m sz A K T) (h1 : 0 ≤ v) (h2 : v ≤ 6) : XI m sz (zu A 10 4 v) K T := XI_w h ⟨h1, h2⟩ rfl
theorem XI_r_25_4 (h : XI m sz A K T) : 0 ≤ A 25 4 ∧ A 25 4 ≤ 12 := h.1 25 4
theorem XI_w_25_4 (h : XI m sz A K T) (h1 : 0 ≤ v) (h2 : v ≤ 12) : XI m sz (zu A 25 4 v) K T := XI_w h ⟨h1, h2⟩ rfl
theorem XI_r_5 (h : XI m sz A K T) (j : Nat) : 0 ≤ A 5 j ∧ A 5 j ≤ 3000 := h.1 5 j
theorem XI_r_6 (h : XI m sz A K T) (j : Nat) : -3000 ≤ A 6 j ∧ A 6 j ≤ 3000 := h.1 6 j
theorem XI_r_7 (h : XI m sz A K T) (j : Nat) : 0 ≤ A 7 j ∧ A 7 j ≤ 1 := h.1 7 j
theorem XI_w_7 (h : XI m sz A K T) (h1 : 0 ≤ v) (h2 : v ≤ 1) : XI m sz (zu A 7 j v) K T := XI_w h ⟨h1, h2⟩ rfl
theorem XI_r_11 (h : XI m sz A K T) (j : Nat) : 0 ≤ A 11 j ∧ A 11 j ≤ 3000 := h.1 11 j
theorem XI_r_12 (h : XI m sz A K T) (j : Nat) : -3000 ≤ A 12 j ∧ A 12 j ≤ 3000 := h.1 12 j
theorem XI_r_13 (h : XI m sz A K T) (j : Nat) : 0 ≤ A 13 j ∧ A 13 j ≤ 1 := h.1 13 j
theorem XI_w_13 (h : XI m sz A K T) (h1 : 0 ≤ v) (h2 : v ≤ 1) : XI m sz (zu A 13 j v) K T := XI_w h ⟨h1, h2⟩ rfl
theorem XI_r_26 (h : XI m sz A K T) (j : Nat) : 0 ≤ A 26 j ∧ A 26 j ≤ 3000 := h.1 26 j
theorem XI_r_27 (h : XI m sz A K T) (j : Nat) : -3000 ≤ A 27 j ∧ A 27 j ≤ 3000 := h.1 27 j
theorem XI_r_28 (h : XI m sz A K T) (j : Nat) : 0 ≤ A 28 j ∧ A 28 j ≤ 1 := h.1 28 j
theorem XI_w_28 (h : XI m sz A K T) (h1 : 0 ≤ v) (h2 : v ≤ 1) : XI m sz (zu A 28 j v) K T := XI_w h ⟨h1, h2⟩ rfl
theorem XI_r_8 (h : XI m sz A K T) (j : Nat) : -2147483648 ≤ A 8 j ∧ A 8 j ≤ 2147483647 := h.1 8 j
theorem XI_w_9 (h : XI m sz A K T) : XI m sz (zu A 9 j v) K T := XI_w h trivial rfl
theorem XI_r_14 (h : XI m sz A K T) (j : Nat) : -2147483648 ≤ A 14 j ∧ A 14 j ≤ 2147483647 := h.1 14 j
theorem XI_w_14 (h : XI m sz A K T) (h1 : -2147483648 ≤ v) (h2 : v ≤ 2147483647) : XI m sz (zu A 14 j v) K T := XI_w h ⟨h1, h2⟩ rfl
theorem XI_r_15 (h : XI m sz A K T) (j : Nat) : 0 ≤ A 15 j ∧ A 15 j ≤ 12 := h.1 15 j
theorem XI_w_15 (h : XI m sz A K T) (h1 : 0 ≤ v) (h2 : v ≤ 12) : XI m sz (zu A 15 j v) K T := XI_w h ⟨h1, h2⟩ rfl
theorem XI_r_16 (h : XI m sz A K T) (j : Nat) : 0 ≤ A 16 j ∧ A 16 j ≤ 1 := h.1 16 j
theorem XI_w_16 (h : XI m sz A K T) (h1 : 0 ≤ v) (h2 : v ≤ 1) : XI m sz (zu A 16 j v) K T := XI_w h ⟨h1, h2⟩ rfl
theorem XI_r_17 (h : XI m sz A K T) (j : Nat) : -2147483648 ≤ A 17 j ∧ A 17 j ≤ 2147483647 := h.1 17 j
theorem XI_w_17 (h : XI m sz A K T) (h1 : -2147483648 ≤ v) (h2 : v ≤ 2147483647) : XI m sz (zu A 17 j v) K T := XI_w h ⟨h1, h2⟩ rfl
theorem XI_r_18 (h : XI m sz A K T) (j : Nat) : -2147483648 ≤ A 18 j ∧ A 18 j ≤ 2147483647 := h.1 18 j
theorem XI_w_18 (h : XI m sz A K T) (h1 : -2147483648 ≤ v) (h2 : v ≤ 2147483647) : XI m sz (zu A 18 j v) K T := XI_w h ⟨h1, h2⟩ rfl
theorem XI_r_19_3 (h : XI m sz A K T) : 0 ≤ A 19 3 ∧ A 19 3 ≤ 1 := h.1 19 3
theorem XI_w_19_3 (h : XI m sz A K T) (h1 : 0 ≤ v) (h2 : v ≤ 1) : XI m sz (zu A 19 3 v) K T := XI_w h ⟨h1, h2⟩ rfl
theorem XI_r_19_4 (h : XI m sz A K T) : -1 ≤ A 19 4 ∧ A 19 4 ≤ 3000 := h.1 19 4
theorem XI_w_19_4 (h : XI m sz A K T) (h1 : -1 ≤ v) (h2 : v ≤ 3000) : XI m sz (zu A 19 4 v) K T := XI_w h ⟨h1, h2⟩ rfl
theorem XI_r_19_5 (h : XI m sz A K T) : 0 ≤ A 19 5 ∧ A 19 5 ≤ 1 := h.1 19 5
theorem XI_w_19_5 (h : XI m sz A K T) (h1 : 0 ≤ v) (h2 : v ≤ 1) : XI m sz (zu A 19 5 v) K T := XI_w h ⟨h1, h2⟩ rfl
theorem XI_r_19_6 (h : XI m sz A K T) : 0 ≤ A 19 6 ∧ A 19 6 ≤ 48100 := h.1 19 6
theorem XI_r_19_7 (h : XI m sz A K T) : 0 ≤ A 19 7 ∧ A 19 7 ≤ 48100 := h.1 19 7
theorem XI_w_19_7 (h : XI m sz A K T) (h1 : 0 ≤ v) (h2 : v ≤ 48100) : XI m sz (zu A 19 7 v) K T := XI_w h ⟨h1, h2⟩ rfl
theorem XI_r_19_8 (h : XI m sz A K T) : 0 ≤ A 19 8 ∧ A 19 8 ≤ 3000 := h.1 19 8
theorem XI_w_19_8 (h : XI m sz A K T) (h1 : 0 ≤ v) (h2 : v ≤ 3000) : XI m sz (zu A 19 8 v) K T := XI_w h ⟨h1, h2⟩ rfl
theorem XI_r_19_10 (h : XI m sz A K T) : 0 ≤ A 19 10 ∧ A 19 10 ≤ 3000 := h.1 19 10
theorem XI_w_19_10 (h : XI m sz A K T) (h1 : 0 ≤ v) (h2 : v ≤ 3000) : XI m sz (zu A 19 10 v) K T := XI_w h ⟨h1, h2⟩ rfl
theorem XI_r_20_4 (h : XI m sz A K T) : 0 ≤ A 20 4 ∧ A 20 4 ≤ 3001 := h.1 20 4
theorem XI_r_20_6 (h : XI m sz A K T) : 0 ≤ A 20 6 ∧ A 20 6 ≤ 3000 := h.1 20 6
theorem XI_w_20_6 (h : XI m sz A K T) (h1 : 0 ≤ v) (h2 : v ≤ 3000) : XI m sz (zu A 20 6 v) K T := XI_w h ⟨h1, h2⟩ rfl
theorem XI_r_20_7 (h : XI m sz A K T) : 0 ≤ A 20 7 ∧ A 20 7 ≤ 3000 := h.1 20 7
theorem XI_w_20_7 (h : XI m sz A K T) (h1 : 0 ≤ v) (h2 : v ≤ 3000) : XI m sz (zu A 20 7 v) K T := XI_w h ⟨h1, h2⟩ rfl
theorem XI_r_20_8 (h : XI m sz A K T) : -2147483648 ≤ A 20 8 ∧ A 20 8 ≤ 2147483647 := h.1 20 8
theorem XI_w_20_8 (h : XI m sz A K T) (h1 : -2147483648 ≤ v) (h2 : v ≤ 2147483647) : XI m sz (zu A 20 8 v) K T := XI_w h ⟨h1, h2⟩ rfl
theorem XI_r_22 (h : XI m sz A K T) (j : Nat) : 0 ≤ A 22 j ∧ A 22 j ≤ 3000 := h.1 22 j
theorem XI_r_23 (h : XI m sz A K T) (j : Nat) : -3000 ≤ A 23 j ∧ A 23 j ≤ 3000 := h.1 23 j
theorem XI_r_24 (h : XI m sz A K T) (j : Nat) : -2147483648 ≤ A 24 j ∧ A 24 j ≤ 2147483647 := h.1 24 j
theorem XI_w_24 (h : XI m sz A K T) (h1 : -2147483648 ≤ v) (h2 : v ≤ 2147483647) : XI m sz (zu A 24 j v) K T := XI_w h ⟨h1, h2⟩ rfl
theorem XI_r_29 (h : XI m sz A K T) (j : Nat) : -2147483648 ≤ A 29 j ∧ A 29 j ≤ 2147483647 := h.1 29 j
theorem XI_w_29 (h : XI m sz A K T) (h1 : -2147483648 ≤ v) (h2 : v ≤ 2147483647) : XI m sz (zu A 29 j v) K T := XI_w h ⟨h1, h2⟩ rfl
theorem XI_a_29 (h : XI m sz A K T) (h1 : ∀ j, -2147483648 ≤ g j ∧ g j ≤ 2147483647) : XI m sz (zua A 29 g) K T := XI_a h h1 rfl rfl
theorem XI_r_30 (h : XI m sz A K T) (j : Nat) : -2147483648 ≤ A 30 j ∧ A 30 j ≤ 2147483647 := h.1 30 j
theorem XI_w_30 (h : XI m sz A K T) (h1 : -2147483648 ≤ v) (h2 : v ≤ 2147483647) : XI m sz (zu A 30 j v) K T := XI_w h ⟨h1, h2⟩ rfl
theorem XI_a_30 (h : XI m sz A K T) (h1 : ∀ j, -2147483648 ≤ g j ∧ g j ≤ 2147483647) : XI m sz (zua A 30 g) K T := XI_a h h1 rfl rfl
theorem XI_r_31_3 (h : XI m sz A K T) : 0 ≤ A 31 3 ∧ A 31 3 ≤ 4000 := h.1 31 3
theorem XI_w_31_3 (h : XI m sz A K T) (h1 : 0 ≤ v) (h2 : v ≤ 4000) : XI m sz (zu A 31 3 v) K T := XI_w h ⟨h1, h2⟩ rfl
theorem XI_r_31_4 (h : XI m sz A K T) : 0 ≤ A 31 4 ∧ A 31 4 ≤ 20000 := h.1 31 4
theorem XI_w_31_4 (h : XI m sz A K T) (h1 : 0 ≤ v) (h2 : v ≤ 20000) : XI m sz (zu A 31 4 v) K T := XI_w h ⟨h1, h2⟩ rfl
theorem XI_r_31_5 (h : XI m sz A K T) : -2147483648 ≤ A 31 5 ∧ A 31 5 ≤ 2147483647 := h.1 31 5
theorem XI_w_31_5 (h : XI m sz A K T) (h1 : -2147483648 ≤ v) (h2 : v ≤ 2147483647) : XI m sz (zu A 31 5 v) K T := XI_w h ⟨h1, h2⟩ rfl
theorem XI_r_31_7 (h : XI m sz A K T) : 0 ≤ A 31 7 ∧ A 31 7 ≤ 3000 := h.1 31 7
theorem XI_w_31_7 (h : XI m sz A K T) (h1 : 0 ≤ v) (h2 : v ≤ 3000) : XI m sz (zu A 31 7 v) K T := XI_w h ⟨h1, h2⟩ rfl
theorem XI_r_31_8 (h : XI m sz A K T) : -2147483648 ≤ A 31 8 ∧ A 31 8 ≤ 2147483647 := h.1 31 8
theorem XI_w_31_8 (h : XI m sz A K T) (h1 : -2147483648 ≤ v) (h2 : v ≤ 2147483647) : XI m sz (zu A 31 8 v) K T := XI_w h ⟨h1, h2⟩ rfl
theorem XI_r_31_9 (h : XI m sz A K T) : 0 ≤ A 31 9 ∧ A 31 9 ≤ 20000 := h.1 31 9
theorem XI_w_31_9 (h : XI m sz A K T) (h1 : 0 ≤ v) (h2 : v ≤ 20000) : XI m sz (zu A 31 9 v) K T := XI_w h ⟨h1, h2⟩ rfl
theorem XI_r_32 (h : XI m sz A K T) (j : Nat) : -2147483648 ≤ A 32 j ∧ A 32 j ≤ 2147483647 := h.1 32 j
theorem XI_w_32 (h : XI m sz A K T) (h1 : -2147483648 ≤ v) (h2 : v ≤ 2147483647) : XI m sz (zu A 32 j v) K T := XI_w h ⟨h1, h2⟩ rfl
theorem XI_a_32 (h : XI m sz A K T) (h1 : ∀ j, -2147483648 ≤ g j ∧ g j ≤ 2147483647) : XI m sz (zua A 32 g) K T := XI_a h h1 rfl rfl
theorem XI_r_33 (h : XI m sz A K T) (j : Nat) : -2147483648 ≤ A 33 j ∧ A 33 j ≤ 2147483647 := h.1 33 j
theorem XI_w_33 (h : XI m sz A K T) (h1 : -2147483648 ≤ v) (h2 : v ≤ 2147483647) : XI m sz (zu A 33 j v) K T := XI_w h ⟨h1, h2⟩ rfl
theorem XI_r_34 (h : XI m sz A K T) (j : Nat) : -2147483648 ≤ A 34 j ∧ A 34 j ≤ 2147483647 := h.1 34 j
theorem XI_w_34 (h : XI m sz A K T) (h1 : -2147483648 ≤ v) (h2 : v ≤ 2147483647) : XI m sz (zu A 34 j v) K T := XI_w h ⟨h1, h2⟩ rfl
theorem XI_r_35_3 (h : XI m sz A K T) : 0 ≤ A 35 3 ∧ A 35 3 ≤ 4000 := h.1 35 3
theorem XI_w_35_3 (h : XI m sz A K T) (h1 : 0 ≤ v) (h2 : v ≤ 4000) : XI m sz (zu A 35 3 v) K T := XI_w h ⟨h1, h2⟩ rfl
theorem XI_r_35_4 (h : XI m sz A K T) : 0 ≤ A 35 4 ∧ A 35 4 ≤ 20000 := h.1 35 4
theorem XI_w_35_4 (h : XI m sz A K T) (h1 : 0 ≤ v) (h2 : v ≤ 20000) : XI m sz (zu A 35 4 v) K T := XI_w h ⟨h1, h2⟩ rfl
theorem XI_r_35_5 (h : XI m sz A K T) : -2147483648 ≤ A 35 5 ∧ A 35 5 ≤ 2147483647 := h.1 35 5
theorem XI_w_35_5 (h : XI m sz A K T) (h1 : -2147483648 ≤ v) (h2 : v ≤ 2147483647) : XI m sz (zu A 35 5 v) K T := XI_w h ⟨h1, h2⟩ rfl
theorem XI_r_35_7 (h : XI m sz A K T) : 0 ≤ A 35 7 ∧ A 35 7 ≤ 3000 := h.1 35 7
theorem XI_w_35_7 (h : XI m sz A K T) (h1 : 0 ≤ v) (h2 : v ≤ 3000) : XI m sz (zu A 35 7 v) K T := XI_w h ⟨h1, h2⟩ rfl
theorem XI_r_35_8 (h : XI m sz A K T) : -2147483648 ≤ A 35 8 ∧ A 35 8 ≤ 2147483647 := h.1 35 8
theorem XI_w_35_8 (h : XI m sz A K T) (h1 : -2147483648 ≤ v) (h2 : v ≤ 2147483647) : XI m sz (zu A 35 8 v) K T := XI_w h ⟨h1, h2⟩ rfl
theorem XI_r_35_9 (h : XI m sz A K T) : 0 ≤ A 35 9 ∧ A 35 9 ≤ 20000 := h.1 35 9
theorem XI_w_35_9 (h : XI m sz A K T) (h1 : 0 ≤ v) (h2 : v ≤ 20000) : XI m sz (zu A 35 9 v) K T := XI_w h ⟨h1, h2⟩ rfl
theorem XI_r_36 (h : XI m sz A K T) (j : Nat) : -2147483648 ≤ A 36 j ∧ A 36 j ≤ 2147483647 := h.1 36 j
theorem XI_w_36 (h : XI m sz A K T) (h1 : -2147483648 ≤ v) (h2 : v ≤ 2147483647) : XI m sz (zu A 36 j v) K T := XI_w h ⟨h1, h2⟩ rfl
theorem XI_a_36 (h : XI m sz A K T) (h1 : ∀ j, -2147483648 ≤ g j ∧ g j ≤ 2147483647) : XI m sz (zua A 36 g) K T := XI_a h h1 rfl rfl
theorem XI_r_37 (h : XI m sz A K T) (j : Nat) : -2147483648 ≤ A 37 j ∧ A 37 j ≤ 2147483647 := h.1 37 j
theorem XI_w_37 (h : XI m sz A K T) (h1 : -2147483648 ≤ v) (h2 : v ≤ 2147483647) : XI m sz (zu A 37 j v) K T := XI_w h ⟨h1, h2⟩ rfl
theorem XI_r_38 (h : XI m sz A K T) (j : Nat) : -2147483648 ≤ A 38 j ∧ A 38 j ≤ 2147483647 := h.1 38 j
theorem XI_w_38 (h : XI m sz A K T) (h1 : -2147483648 ≤ v) (h2 : v ≤ 2147483647) : XI m sz (zu A 38 j v) K T := XI_w h ⟨h1, h2⟩ rfl
theorem XI_01 (h : XI 0 sz A K T) (h1 : 1 ≤ A 20 4) : XI 1 sz A K T := ⟨h.1, h.2.1, h.2.2.1, h.2.2.2.1, h.2.2.2.2.1, h.2.2.2.2.2.1, fun _ => h1, fun _ => h.2.2.2.2.2.2.2 (Or.inl rfl)⟩
theorem XI_10 (h : XI 1 sz A K T) (h1 : A 19 6 = 0 ∨ A 4 4 = 0) : XI 0 sz A K T := by
  refine ⟨h.1, h.2.1, h.2.2.1, h.2.2.2.1, h.2.2.2.2.1, h.2.2.2.2.2.1, fun e => absurd e (by decide), fun _ j hj => ?_⟩
  rcases h1 with e | e
  · exact h.2.2.2.2.2.2.2 (Or.inr e) j hj
  · exfalso; omega
/-- a write to a cell that more than a range speaks of: the range's share -/
theorem cok_w (h : ∀ c j, cok c j (A c j)) (hc : cok c k v) : ∀ i j, cok i j (zu A c k v i j) := by
  intro i j
  rw [zu_ap]
  split
  · rename_i e
    rw [e.1, e.2]
    exact hc
  · exact h i j
theorem XI_z4 (h : XI m sz A K T) : XI m sz (zu A 4 4 0) K T := by
  obtain ⟨h1, h2, h3, h4, h5, h6, h7, h8⟩ := h
  exact ⟨cok_w h1 ⟨by decide, by decide⟩, h2, h3, h4, h5, h6, h7, fun _ j hj => by
    have : (j : Int) < 0 := hj
    exfalso; omega⟩
theorem XI_tc0 (h : XI 0 sz A K T) : XI 0 sz (zu A 20 4 0) K T := by
  obtain ⟨h1, h2, h3, h4, h5, h6, h7, h8⟩ := h
  exact ⟨cok_w h1 ⟨by decide, by decide⟩, h2, h3, h4, h5, fun j hj => by
    have : (j : Int) < 0 := hj
    exfalso; omega, fun e => absurd e (by decide), h8⟩
theorem XI_len (h : XI m sz A K T) (h9 : 0 ≤ v) (h10 : v ≤ 3000) : XI m v (zu A 0 1 v) K T := by
  obtain ⟨h1, h2, h3, h4, h5, h6, h7, h8⟩ := h
  exact ⟨cok_w h1 ⟨h9, h10⟩, h2, rfl, h4, h5, h6, h7, h8⟩
theorem XI_fault (h : XI 1 sz A K T) (h9 : 1 ≤ v) (h10 : v ≤ 48100) : XI 1 sz (zu A 19 6 v) K T := by
  obtain ⟨h1, h2, h3, h4, h5, h6, h7, h8⟩ := h
  refine ⟨cok_w h1 ⟨by show (0 : Int) ≤ v; omega, h10⟩, h2, h3, h4, h5, h6, h7, fun e => ?_⟩
  rcases e with e | e
  · cases e
  · have : v = 0 := e
    exfalso; omega
theorem XI_fault0 (h : XI m sz A K T) (h9 : A 4 4 = 0) : XI m sz (zu A 19 6 0) K T := by
  obtain ⟨h1, h2, h3, h4, h5, h6, h7, h8⟩ := h
  exact ⟨cok_w h1 ⟨by decide, by decide⟩, h2, h3, h4, h5, h6, h7, fun _ j hj => by
    have : (j : Int) < A 4 4 := hj
    exfalso; omega⟩
/-- the size of the declaration that comes next -/
theorem XI_sizes {i : Int} (h : XI m sz A K T) (hi : A 4 4 ≤ i) (h9 : -2147483648 ≤ v) (h10 : v ≤ 2147483647) : XI m sz (zu A 8 i.toNat v) K T := by
  obtain ⟨h1, h2, h3, h4, h5, h6, h7, h8⟩ := h
  have r44 : 0 ≤ A 4 4 ∧ A 4 4 ≤ 40 := h1 4 4
  refine ⟨cok_w h1 ⟨h9, h10⟩, h2, h3, h4, h5, h6, h7, fun e j hj => ?_⟩
  have hj2 : (j : Int) < A 4 4 := hj
  rw [zu_ap, if_neg (by omega)]
  exact h8 e j hj
theorem XI_add_4 {p s b : Int} (h : XI m sz A K T) (hn : A 4 4 < 40) (hp : 0 ≤ p ∧ p ≤ 3000) (hs : -3000 ≤ s ∧ s ≤ 3000) (hps : p + s ≤ 3000) (hb : 0 ≤ b ∧ b ≤ 1) (h8z : (m = 0 ∨ A 19 6 = 0) → A 8 (A 4 4).toNat ≤ 64) : XI m sz (zu (zu (zu (zu A 5 (A 4 4).toNat p) 6 (A 4 4).toNat s) 7 (A 4 4).toNat b) 4 4 (A 4 4 + 1)) K T := by
  obtain ⟨h1, h2, h3, h4, h5, h6, h7, h8⟩ := h
  have r4 : 0 ≤ A 4 4 ∧ A 4 4 ≤ 40 := h1 4 4
  have key : ∀ j, (zu (zu A 5 (A 4 4).toNat p) 6 (A 4 4).toNat s) 5 j + (zu (zu A 5 (A 4 4).toNat p) 6 (A 4 4).toNat s) 6 j ≤ 3000 := by
    intro j
    have e1 : (zu (zu A 5 (A 4 4).toNat p) 6 (A 4 4).toNat s) 5 j = zu A 5 (A 4 4).toNat p 5 j := rfl
    rw [e1, zu_ap, zu_ap]
    have e2 : zu A 5 (A 4 4).toNat p 6 j = A 6 j := rfl
    rw [e2]
    by_cases e : j = (A 4 4).toNat
    · rw [if_pos ⟨rfl, e⟩, if_pos ⟨rfl, e⟩]; exact hps
    · rw [if_neg (fun q => e q.2), if_neg (fun q => e q.2)]; exact (h2 j).1
  refine ⟨cok_w (cok_w (cok_w (cok_w h1 hp) hs) hb) ⟨by show (0 : Int) ≤ A 4 4 + 1; omega, by show A 4 4 + 1 ≤ (40 : Int); omega⟩, fun j => ?_, h3, h4, h5, h6, h7, fun e j hj => by
    have hj2 : (j : Int) < A 4 4 + 1 := hj
    rcases Int.lt_or_le (j : Int) (A 4 4) with q | q
    · exact h8 e j q
    · have e2 : j = (A 4 4).toNat := by omega
      subst e2
      exact h8z e⟩
  have k1 := key j
  exact ⟨k1, (h2 j).2⟩

theorem XI_add_10 {p s b : Int} (h : XI m sz A K T) (hn : A 10 4 < 6) (hp : 0 ≤ p ∧ p ≤ 3000) (hs : -3000 ≤ s ∧ s ≤ 3000) (hps : p + s ≤ 3000) (hb : 0 ≤ b ∧ b ≤ 1) : XI m sz (zu (zu (zu (zu A 11 (A 10 4).toNat p) 12 (A 10 4).toNat s) 13 (A 10 4).toNat b) 10 4 (A 10 4 + 1)) K T := by
  obtain ⟨h1, h2, h3, h4, h5, h6, h7, h8⟩ := h
  have r4 : 0 ≤ A 10 4 ∧ A 10 4 ≤ 6 := h1 10 4
  have key : ∀ j, (zu (zu A 11 (A 10 4).toNat p) 12 (A 10 4).toNat s) 11 j + (zu (zu A 11 (A 10 4).toNat p) 12 (A 10 4).toNat s) 12 j ≤ 3000 := by
    intro j
    have e1 : (zu (zu A 11 (A 10 4).toNat p) 12 (A 10 4).toNat s) 11 j = zu A 11 (A 10 4).toNat p 11 j := rfl
    rw [e1, zu_ap, zu_ap]
    have e2 : zu A 11 (A 10 4).toNat p 12 j = A 12 j := rfl
    rw [e2]
    by_cases e : j = (A 10 4).toNat
    · rw [if_pos ⟨rfl, e⟩, if_pos ⟨rfl, e⟩]; exact hps
    · rw [if_neg (fun q => e q.2), if_neg (fun q => e q.2)]; exact (h2 j).2.1
  refine ⟨cok_w (cok_w (cok_w (cok_w h1 hp) hs) hb) ⟨by show (0 : Int) ≤ A 10 4 + 1; omega, by show A 10 4 + 1 ≤ (6 : Int); omega⟩, fun j => ?_, h3, h4, h5, h6, h7, h8⟩
  have k1 := key j
  exact ⟨(h2 j).1, k1, (h2 j).2.2⟩

theorem XI_add_25 {p s b : Int} (h : XI m sz A K T) (hn : A 25 4 < 12) (hp : 0 ≤ p ∧ p ≤ 3000) (hs : -3000 ≤ s ∧ s ≤ 3000) (hps : p + s ≤ 3000) (hb : 0 ≤ b ∧ b ≤ 1) : XI m sz (zu (zu (zu (zu A 26 (A 25 4).toNat p) 27 (A 25 4).toNat s) 28 (A 25 4).toNat b) 25 4 (A 25 4 + 1)) K T := by
  obtain ⟨h1, h2, h3, h4, h5, h6, h7, h8⟩ := h
  have r4 : 0 ≤ A 25 4 ∧ A 25 4 ≤ 12 := h1 25 4
  have key : ∀ j, (zu (zu A 26 (A 25 4).toNat p) 27 (A 25 4).toNat s) 26 j + (zu (zu A 26 (A 25 4).toNat p) 27 (A 25 4).toNat s) 27 j ≤ 3000 := by
    intro j
    have e1 : (zu (zu A 26 (A 25 4).toNat p) 27 (A 25 4).toNat s) 26 j = zu A 26 (A 25 4).toNat p 26 j := rfl
    rw [e1, zu_ap, zu_ap]
    have e2 : zu A 26 (A 25 4).toNat p 27 j = A 27 j := rfl
    rw [e2]
    by_cases e : j = (A 25 4).toNat
    · rw [if_pos ⟨rfl, e⟩, if_pos ⟨rfl, e⟩]; exact hps
    · rw [if_neg (fun q => e q.2), if_neg (fun q => e q.2)]; exact (h2 j).2.2.2
  refine ⟨cok_w (cok_w (cok_w (cok_w h1 hp) hs) hb) ⟨by show (0 : Int) ≤ A 25 4 + 1; omega, by show A 25 4 + 1 ≤ (12 : Int); omega⟩, fun j => ?_, h3, h4, h5, h6, h7, h8⟩
  have k1 := key j
  exact ⟨(h2 j).1, (h2 j).2.1, (h2 j).2.2.1, k1⟩

theorem XI_addT0 {p s u : Int} {kd : Nat} (h : XI 0 sz A K T) (hn : A 20 4 < 3001) (hk : 1000 ≤ kd ∧ kd < 1039) (hp : 0 ≤ p ∧ p ≤ 3000) (hs : -3000 ≤ s ∧ s ≤ 3000) (hps : p + s ≤ 3000) (hu : -2147483648 ≤ u ∧ u ≤ 2147483647) : XI 0 sz (zu (zu (zu (zu A 22 (A 20 4).toNat p) 23 (A 20 4).toNat s) 24 (A 20 4).toNat u) 20 4 (A 20 4 + 1)) K (zut T (A 20 4).toNat kd) := by
  obtain ⟨h1, h2, h3, h4, h5, h6, h7, h8⟩ := h
  have r4 : 0 ≤ A 20 4 ∧ A 20 4 ≤ 3001 := h1 20 4
  have key : ∀ j, (zu (zu A 22 (A 20 4).toNat p) 23 (A 20 4).toNat s) 22 j + (zu (zu A 22 (A 20 4).toNat p) 23 (A 20 4).toNat s) 23 j ≤ 3000 := by
    intro j
    have e1 : (zu (zu A 22 (A 20 4).toNat p) 23 (A 20 4).toNat s) 22 j = zu A 22 (A 20 4).toNat p 22 j := rfl
    rw [e1, zu_ap, zu_ap]
    have e2 : zu A 22 (A 20 4).toNat p 23 j = A 23 j := rfl
    rw [e2]
    by_cases e : j = (A 20 4).toNat
    · rw [if_pos ⟨rfl, e⟩, if_pos ⟨rfl, e⟩]; exact hps
    · rw [if_neg (fun q => e q.2), if_neg (fun q => e q.2)]; exact (h2 j).2.2.1
  refine ⟨cok_w (cok_w (cok_w (cok_w h1 hp) hs) hu) ⟨by show (0 : Int) ≤ A 20 4 + 1; omega, by show A 20 4 + 1 ≤ (3001 : Int); omega⟩, fun j => ?_, h3, h4, fun j r e => ?_, fun j hj => ?_, fun e => absurd e (by decide), fun _ => h8 (Or.inl rfl)⟩
  · have k1 := key j
    exact ⟨(h2 j).1, (h2 j).2.1, k1, (h2 j).2.2.2⟩
  · rw [zut_ap] at e
    split at e
    · have := Option.some.inj e
      omega
    · exact h5 j r e
  · have hj2 : (j : Int) < A 20 4 + 1 := hj
    rw [zut_ap]
    split
    · exact Option.some_ne_none _
    · exact h6 j (by omega)
end XIS
set_option maxRecDepth 100000 in
theorem zlz_t : (List.range 39).all (fun k => decide (0 ≤ zlev (1000 + k) ∧ zlev (1000 + k) ≤ 8 ∧ 0 ≤ zop (1000 + k) ∧ zop (1000 + k) ≤ 29)) = true := by decide +kernel
theorem zlev_r {a : Nat} (h : 1000 ≤ a ∧ a < 1039) : 0 ≤ zlev a ∧ zlev a ≤ 8 := by
  have := of_decide_eq_true (List.all_eq_true.mp zlz_t (a - 1000) (List.mem_range.mpr (by omega)))
  rw [show 1000 + (a - 1000) = a by omega] at this
  exact ⟨this.1, this.2.1⟩
theorem zop_r {a : Nat} (h : 1000 ≤ a ∧ a < 1039) : 0 ≤ zop a ∧ zop a ≤ 29 := by
  have := of_decide_eq_true (List.all_eq_true.mp zlz_t (a - 1000) (List.mem_range.mpr (by omega)))
  rw [show 1000 + (a - 1000) = a by omega] at this
  exact this.2.2
/-- how long a spelling is -/
def slen (s : Nat) : Int := ((pm_spl.getD (s - 3000) []).length : Nat)
set_option maxRecDepth 100000 in
theorem slen_t : (List.range 39).all (fun k => decide (slen (3000 + k) ≤ 6)) = true := by decide +kernel
theorem slen_r {s : Nat} (h : 3000 ≤ s ∧ s < 3039) : 0 ≤ slen s ∧ slen s ≤ 6 := by
  have := of_decide_eq_true (List.all_eq_true.mp slen_t (s - 3000) (List.mem_range.mpr (by omega)))
  rw [show 3000 + (s - 3000) = s by omega] at this
  exact ⟨Int.natCast_nonneg _, this⟩
