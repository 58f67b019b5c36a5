/-! The references of the fresh heap, as a table; all but two kinds of them never change -/
def pg_f : List (Nat × Nat × Nat) → Nat → Nat → Option Nat
  | [], _, _ => none
  | q :: l, i, j => bif Nat.beq q.1 i && Nat.beq q.2.1 j then some q.2.2 else pg_f l i j
theorem pg_nb {a b : Nat} (h : b ≠ a) : Nat.beq a b = false := by
  cases e : Nat.beq a b with
  | false => rfl
  | true => exact absurd (Nat.eq_of_beq_eq_true e).symm h
theorem pg_no {n : Nat} : ∀ {l : List (Nat × Nat × Nat)}, l.all (fun q => !Nat.beq q.1 n) = true → ∀ j, pg_f l n j = none := by
  intro l
  induction l with
  | nil => intro _ j; rfl
  | cons q l ih =>
    intro h j
    rw [List.all_cons] at h
    obtain ⟨h1, h2⟩ := Bool.and_eq_true_iff.mp h
    have h3 : Nat.beq q.1 n = false := by simpa using h1
    unfold pg_f
    rw [h3]
    exact ih h2 j
theorem pd_R {h : pm_H} {l : List (Nat × Nat × Nat)} {a k r : Nat} (z : h.2.2 = pg_f l) : (pm_setR h a k (some r)).2.2 = pg_f ((a, k, r) :: l) := by
  funext i j
  show va_up h.2.2 a (va_up (h.2.2 a) k (some r)) i j = bif Nat.beq a i && Nat.beq k j then some r else pg_f l i j
  by_cases h1 : i = a
  · subst h1
    rw [va_up_self, Nat.beq_refl]
    by_cases h2 : j = k
    · subst h2
      rw [va_up_self, Nat.beq_refl]
      rfl
    · rw [va_up_ne _ _ h2, z, show Nat.beq k j = false from pg_nb h2]
      rfl
  · rw [va_up_ne _ _ h1, z, show Nat.beq a i = false from pg_nb h1]
    rfl
theorem pd_0 {h : pm_H} {l : List (Nat × Nat × Nat)} {n : Nat} (z : h.2.2 = pg_f l) (hl : l.all (fun q => !Nat.beq q.1 n) = true) : (pn_zero h n).2.2 = pg_f l := by
  funext i j
  show va_up h.2.2 n (fun _ => none) i j = pg_f l i j
  by_cases h1 : i = n
  · subst h1
    rw [va_up_self, pg_no hl]
  · rw [va_up_ne _ _ h1, z]
def pg_lC : List (Nat × Nat × Nat) := [(0, 7, 35), (35, 6, 38), (35, 2, 37), (35, 1, 36), (35, 0, 2), (0, 6, 31), (31, 6, 34), (31, 2, 33), (31, 1, 32), (31, 0, 2), (0, 5, 30), (0, 4, 29), (0, 3, 19), (19, 9, 1003), (19, 2, 25), (25, 3, 28), (25, 2, 27), (25, 1, 26), (25, 0, 3), (19, 1, 20), (20, 3, 24), (20, 2, 23), (20, 1, 22), (20, 0, 21), (20, 5, 3), (19, 0, 2), (0, 2, 2), (2, 11, 18), (2, 10, 17), (2, 9, 16), (2, 8, 15), (2, 7, 14), (2, 6, 10), (10, 3, 13), (10, 2, 12), (10, 1, 11), (10, 0, 3), (2, 4, 9), (2, 3, 8), (2, 2, 4), (4, 3, 7), (4, 2, 6), (4, 1, 5), (4, 0, 3), (2, 0, 3), (0, 0, 1)]
set_option maxRecDepth 100000 in
theorem pd_C : pm_hC.2.2 = pg_f pg_lC := (pd_R (pd_R (pd_0 (pd_R (pd_0 (pd_R (pd_0 (pd_R (pd_0 (pd_R (pd_R (pd_0 (pd_R (pd_0 (pd_R (pd_0 (pd_R (pd_0 (pd_R (pd_0 (pd_R (pd_0 (pd_R (pd_R (pd_R (pd_R (pd_0 (pd_R (pd_0 (pd_R (pd_0 (pd_R (pd_0 (pd_R (pd_R (pd_0 (pd_R (pd_0 (pd_R (pd_0 (pd_R (pd_0 (pd_R (pd_0 (pd_R (pd_0 (pd_R (pd_R (pd_0 (pd_R (pd_0 (pd_R (pd_0 (pd_R (pd_0 (pd_R (pd_0 (pd_R (pd_R (pd_0 (pd_R (pd_0 (pd_R (pd_0 (pd_R (pd_0 (pd_R (pd_0 (pd_R (pd_0 (pd_R (pd_R (pd_0 (pd_R (pd_0 (pd_R (pd_0 (pd_R (pd_0 (pd_R (pd_0 (pd_0 (pd_R (pd_0 (pd_0 (show pm_h0.2.2 = pg_f [] from rfl) (by decide)) (by decide))) (by decide)) (by decide))) (by decide))) (by decide))) (by decide))) (by decide)))) (by decide))) (by decide))) (by decide))) (by decide))) (by decide))) (by decide)))) (by decide))) (by decide))) (by decide))) (by decide))) (by decide)))) (by decide))) (by decide))) (by decide))) (by decide))) (by decide))) (by decide)))) (by decide))) (by decide))) (by decide))) (by decide)))))) (by decide))) (by decide))) (by decide))) (by decide))) (by decide))) (by decide)))) (by decide))) (by decide))) (by decide))) (by decide))))
def pg_lM : List (Nat × Nat × Nat) := [(39, 63, 73), (39, 62, 72), (39, 61, 71), (39, 60, 70), (39, 59, 69), (39, 57, 68), (39, 56, 67), (39, 55, 66), (39, 49, 65), (39, 48, 64), (39, 47, 63), (39, 46, 62), (39, 45, 61), (39, 41, 60), (39, 40, 59), (39, 39, 58), (39, 36, 57), (39, 35, 56), (39, 34, 55), (39, 33, 54), (39, 32, 53), (39, 31, 52), (39, 30, 51), (39, 29, 50), (39, 28, 49), (39, 27, 48), (39, 26, 47), (39, 25, 46), (39, 24, 45), (39, 23, 44), (39, 22, 43), (39, 21, 42), (39, 2, 41), (39, 1, 40), (0, 7, 35), (35, 6, 38), (35, 2, 37), (35, 1, 36), (35, 0, 2), (0, 6, 31), (31, 6, 34), (31, 2, 33), (31, 1, 32), (31, 0, 2), (0, 5, 30), (0, 4, 29), (0, 3, 19), (19, 9, 1003), (19, 2, 25), (25, 3, 28), (25, 2, 27), (25, 1, 26), (25, 0, 3), (19, 1, 20), (20, 3, 24), (20, 2, 23), (20, 1, 22), (20, 0, 21), (20, 5, 3), (19, 0, 2), (0, 2, 2), (2, 11, 18), (2, 10, 17), (2, 9, 16), (2, 8, 15), (2, 7, 14), (2, 6, 10), (10, 3, 13), (10, 2, 12), (10, 1, 11), (10, 0, 3), (2, 4, 9), (2, 3, 8), (2, 2, 4), (4, 3, 7), (4, 2, 6), (4, 1, 5), (4, 0, 3), (2, 0, 3), (0, 0, 1)]
set_option maxRecDepth 100000 in
theorem pd_M : pm_hM.2.2 = pg_f pg_lM := (pd_R (pd_0 (pd_R (pd_0 (pd_R (pd_0 (pd_R (pd_0 (pd_R (pd_0 (pd_R (pd_0 (pd_R (pd_0 (pd_R (pd_0 (pd_R (pd_0 (pd_R (pd_0 (pd_R (pd_0 (pd_R (pd_0 (pd_R (pd_0 (pd_R (pd_0 (pd_R (pd_0 (pd_R (pd_0 (pd_R (pd_0 (pd_R (pd_0 (pd_R (pd_0 (pd_R (pd_0 (pd_R (pd_0 (pd_R (pd_0 (pd_R (pd_0 (pd_R (pd_0 (pd_R (pd_0 (pd_R (pd_0 (pd_R (pd_0 (pd_R (pd_0 (pd_R (pd_0 (pd_R (pd_0 (pd_R (pd_0 (pd_R (pd_0 (pd_R (pd_0 (pd_R (pd_0 (pd_0 pd_C (by decide)) (by decide))) (by decide))) (by decide))) (by decide))) (by decide))) (by decide))) (by decide))) (by decide))) (by decide))) (by decide))) (by decide))) (by decide))) (by decide))) (by decide))) (by decide))) (by decide))) (by decide))) (by decide))) (by decide))) (by decide))) (by decide))) (by decide))) (by decide))) (by decide))) (by decide))) (by decide))) (by decide))) (by decide))) (by decide))) (by decide))) (by decide))) (by decide))) (by decide))) (by decide)))
theorem pd_A : pm_hA.2.2 = pg_f pg_lM := pd_0 pd_M (by decide)
def pg_r (K : Option Nat) (T : Nat → Option Nat) (i j : Nat) : Option Nat := bif Nat.beq i 21 then T j else (bif Nat.beq i 19 && Nat.beq j 9 then K else pg_f pg_lM i j)
/-- the heap: ints, longs, the parser's kind, the tokens' kinds -/
def pg (I : Nat → Nat → Int32) (J : Nat → Nat → Int64) (K : Option Nat) (T : Nat → Option Nat) : pm_H := (I, J, pg_r K T)
theorem pg_A : pm_hA = pg (fun _ _ => 0) (fun _ _ => 0) (some 1003) (fun _ => none) := by
  have h1 := pz_A
  have h2 : pm_hA.2.2 = pg_r (some 1003) (fun _ => none) := by
    rw [pd_A]
    funext i j
    unfold pg_r
    cases h3 : Nat.beq i 21 with
    | true =>
      rw [Nat.eq_of_beq_eq_true h3]
      exact pg_no (by decide) j
    | false =>
      cases h4 : (Nat.beq i 19 && Nat.beq j 9) with
      | true =>
        obtain ⟨h5, h6⟩ := Bool.and_eq_true_iff.mp h4
        rw [Nat.eq_of_beq_eq_true h5, Nat.eq_of_beq_eq_true h6]
        rfl
      | false => rfl
  exact Prod.ext h1.1 (Prod.ext h1.2 h2)
