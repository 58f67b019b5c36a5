/-- the class's feed, first loop -/
theorem fd_loop1 {d N m : Nat} {h : pm_H} {Q : Option Value → pm_H → Prop} (hN : N < 2 ^ 64) (hm : m ≤ 8)
    (qf : ∀ j, j < m → fd_okb (fd_b N j) = false → Q (some (.int 0)) h)
    (qt : (∀ j, j < m → fd_okb (fd_b N j) = true) → px (d + 1) 152 54 [(4, .int (nI m)), (0, .ref 0), (1, .long (lN N)), (3, .int (nI m))] [] h Q) :
    ∀ r k, k + r = m → (∀ j, j < k → fd_okb (fd_b N j) = true) → px (d + 1) 152 28 [(4, .int (nI k)), (0, .ref 0), (1, .long (lN N)), (3, .int (nI m))] [] h Q := by
  intro r
  induction r with
  | zero =>
    intro k hk hok
    have hk : k = m := by omega
    subst hk
    refine px_seg 3 (pc' := bif pm_c2 .ge (nI k) (nI k) then 54 else 34) (L' := [(4, .int (nI k)), (0, .ref 0), (1, .long (lN N)), (3, .int (nI k))]) (S' := []) (h' := h) (fun _ => rfl) ?_
    rw [pb_ge (by omega) (by omega), decide_eq_true (Nat.le_refl k)]
    exact qt hok
  | succ r ih =>
    intro k hk hok
    refine px_seg 3 (pc' := bif pm_c2 .ge (nI k) (nI m) then 54 else 34) (L' := [(4, .int (nI k)), (0, .ref 0), (1, .long (lN N)), (3, .int (nI m))]) (S' := []) (h' := h) (fun _ => rfl) ?_
    rw [pb_ge (by omega) (by omega), decide_eq_false (show ¬ m ≤ k by omega)]
    refine px_seg 2 (pc' := 37) (L' := [(4, .int (nI k)), (0, .ref 0), (1, .long (lN N)), (3, .int (nI m))]) (S' := [.int (nI k), .long (lN N)]) (h' := h) (fun _ => rfl) ?_
    refine px_call (mj := 161) (as := [.long (lN N), .int (nI k)]) (S' := []) rfl rfl (fd_162 hN (by omega) ?_)
    refine px_call (mj := 162) (as := [.int (nI (fd_b N k))]) (S' := []) rfl rfl (fd_163 (fd_bl N k) ?_)
    cases hb : fd_okb (fd_b N k) with
    | false =>
      refine px_seg 2 (pc' := 47) (L' := [(4, .int (nI k)), (0, .ref 0), (1, .long (lN N)), (3, .int (nI m))]) (S' := [.int 0]) (h' := h) (fun _ => rfl) ?_
      exact px_rb rfl rfl (Or.inl rfl) (qf k (by omega) hb)
    | true =>
      refine px_seg 3 (pc' := 28) (L' := [(4, .int (nI k + 1)), (0, .ref 0), (1, .long (lN N)), (3, .int (nI m))]) (S' := []) (h' := h) (fun _ => rfl) ?_
      rw [nI_1]
      refine ih (k + 1) (by omega) (fun j hj => ?_)
      by_cases e : j = k
      · subst e; exact hb
      · exact hok j (by omega)
theorem fd_dec (r : Nat) : nI r + Int32.ofInt (-1) = nI r - 1 := by
  rw [Int32.sub_eq_add_neg]
  rfl
/-- what a feed leaves of the ints: only the text and its length change, and the text stays made of chars -/
def fd_fr (I I' : Nat → Nat → Int32) : Prop := (∀ i, i ≠ 0 → i ≠ 1 → I' i = I i) ∧ (∀ j, j ≠ 1 → I' 0 j = I 0 j) ∧ (∀ j, I' 1 j = I 1 j ∨ ∃ b, b < 256 ∧ I' 1 j = nI b)
theorem fd_fr_rf (I : Nat → Nat → Int32) : fd_fr I I := ⟨fun _ _ _ => rfl, fun _ _ => rfl, fun _ => Or.inl rfl⟩
theorem fd_loop2 {d N m l : Nat} {J : Nat → Nat → Int64} {K : Option Nat} {T : Nat → Option Nat} {Q : Option Value → pm_H → Prop} (hN : N < 2 ^ 64) (hm : m ≤ 8) (hl : l + m ≤ 3000) (I0 : Nat → Nat → Int32)
    (q : ∀ I, I 0 1 = nI (l + m) → fd_fr I0 I → Q (some (.int 1)) (pg I J K T)) :
    ∀ r I, r ≤ m → I 0 1 = nI (l + (m - r)) → fd_fr I0 I → px (d + 1) 152 59 [(4, .int (nI r - 1)), (0, .ref 0), (1, .long (lN N)), (3, .int (nI m))] [] (pg I J K T) Q := by
  intro r
  induction r with
  | zero =>
    intro I hr hI hF
    refine px_seg 3 (pc' := 96) (L' := [(4, .int (nI 0 - 1)), (0, .ref 0), (1, .long (lN N)), (3, .int (nI m))]) (S' := [.int 1]) (h' := pg I J K T) (fun _ => rfl) ?_
    exact px_rb rfl rfl (Or.inr rfl) (q I hI hF)
  | succ r ih =>
    intro I hr hI hF
    rw [nI_pred]
    refine px_seg 2 (pc' := bif pm_c0 .lt (nI r) then 95 else 64) (L' := [(4, .int (nI r)), (0, .ref 0), (1, .long (lN N)), (3, .int (nI m))]) (S' := []) (h' := pg I J K T) (fun _ => rfl) ?_
    rw [show pm_c0 .lt (nI r) = false from decide_eq_false (nI_pos (by omega))]
    refine px_seg 6 (pc' := 75) (L' := [(4, .int (nI r)), (0, .ref 0), (1, .long (lN N)), (3, .int (nI m))]) (S' := [.int (nI r), .long (lN N), .int (I 0 1), .ref 1]) (h' := pg I J K T) (fun _ => rfl) ?_
    refine px_call (mj := 161) (as := [.long (lN N), .int (nI r)]) (S' := [.int (I 0 1), .ref 1]) rfl rfl (fd_162 hN (by omega) ?_)
    have hb := fd_bl N r
    refine px_castore (a := 1) (x := nI (fd_b N r)) (j := I 0 1) (S := []) rfl rfl (by rw [hI]; exact pb_inb (show l + (m - (r + 1)) < 3000 by omega) (by decide)) ?_
    rw [fd_vc (by omega), hI, nI_clamp (by omega)]
    refine px_seg 8 (pc' := 59) (L' := [(4, .int (nI r + Int32.ofInt (-1))), (0, .ref 0), (1, .long (lN N)), (3, .int (nI m))]) (S' := []) (h' := pg (va_up (va_up I 1 (va_up (I 1) (l + (m - (r + 1))) (nI (fd_b N r)))) 0 (va_up (I 0) 1 (I 0 1 + 1))) J K T) (fun _ => rfl) ?_
    rw [fd_dec]
    refine ih _ (by omega) ?_ ?_
    · rw [va_up_self, va_up_self, hI, nI_1]
      congr 1
      omega
    · obtain ⟨f1, f2, f3⟩ := hF
      refine ⟨fun i h0 h1 => ?_, fun j hj => ?_, fun j => ?_⟩
      · rw [va_up_ne _ _ h0, va_up_ne _ _ h1]
        exact f1 i h0 h1
      · rw [va_up_self, va_up_ne _ _ hj]
        exact f2 j hj
      · rw [va_up_ne _ _ (show (1 : Nat) ≠ 0 by decide), va_up_self]
        by_cases e : j = l + (m - (r + 1))
        · subst e
          rw [va_up_self]
          exact Or.inr ⟨_, hb, rfl⟩
        · rw [va_up_ne _ _ e]
          exact f3 j
/-- the feed is taken -/
def fd_B (N : Nat) (n : Int32) (l : Nat) : Prop := ∃ m, n = nI m ∧ 1 ≤ m ∧ m ≤ 8 ∧ l + m ≤ 3000 ∧ ∀ j, j < m → fd_okb (fd_b N j) = true
theorem fd_in {n : Int32} (h0 : ¬ n < 1) (h8 : ¬ (8 : Int32) < n) : ∃ m, n = nI m ∧ 1 ≤ m ∧ m ≤ 8 := by
  have h1 : ¬ n < 0 := by
    intro z
    rw [Int32.lt_iff_toInt_lt] at z h0
    have e0 : (0 : Int32).toInt = 0 := by decide
    have e1 : (1 : Int32).toInt = 1 := by decide
    omega
  have h2 : n ≤ 8 := Int32.not_lt.mp h8
  obtain ⟨m, hm, rfl⟩ := nI_of2 (n := 8) (M := 8) (by decide) h1 h2
  refine ⟨m, rfl, ?_, hm⟩
  rcases Nat.eq_zero_or_pos m with e | e
  · subst e
    exact absurd (by decide : nI 0 < 1) h0
  · exact e
theorem fd_out {N l : Nat} {n : Int32} (h : n < 1 ∨ (8 : Int32) < n) : ¬ fd_B N n l := by
  rintro ⟨m, rfl, h1, h2, -, -⟩
  rcases h with h | h
  · exact absurd h (nI_nlt (a := m) (b := 1) h1 (by omega))
  · exact absurd h (nI_nlt (a := 8) (b := m) h2 (by omega))
theorem fd_153 {d N l : Nat} {n : Int32} {I : Nat → Nat → Int32} {J : Nat → Nat → Int64} {K : Option Nat} {T : Nat → Option Nat} {Q : Option Value → pm_H → Prop} (hN : N < 2 ^ 64) (hl : l ≤ 3000) (hI : I 0 1 = nI l)
    (q0 : ¬ fd_B N n l → Q (some (.int 0)) (pg I J K T))
    (q1 : ∀ m I', n = nI m → fd_B N n l → I' 0 1 = nI (l + m) → fd_fr I I' → Q (some (.int 1)) (pg I' J K T)) : px (d + 1) 152 0 (lv_args 0 [.ref 0, .long (lN N), .int n]) [] (pg I J K T) Q := by
  refine px_seg 3 (pc' := bif pm_c2 .lt n 1 then 23 else 5) (L' := [(0, .ref 0), (1, .long (lN N)), (3, .int n)]) (S' := []) (h' := pg I J K T) (fun _ => rfl) ?_
  have e0 : ¬ fd_B N n l → px (d + 1) 152 23 [(0, .ref 0), (1, .long (lN N)), (3, .int n)] [] (pg I J K T) Q := fun hB => px_seg 1 (pc' := 24) (L' := [(0, .ref 0), (1, .long (lN N)), (3, .int n)]) (S' := [.int 0]) (h' := pg I J K T) (fun _ => rfl) (px_rb rfl rfl (Or.inl rfl) (q0 hB))
  by_cases h0 : n < 1
  · rw [show pm_c2 .lt n 1 = true from decide_eq_true h0]
    exact e0 (fd_out (Or.inl h0))
  rw [show pm_c2 .lt n 1 = false from decide_eq_false h0]
  refine px_seg 3 (pc' := bif pm_c2 .gt n 8 then 23 else 11) (L' := [(0, .ref 0), (1, .long (lN N)), (3, .int n)]) (S' := []) (h' := pg I J K T) (fun _ => rfl) ?_
  by_cases h8 : (8 : Int32) < n
  · rw [show pm_c2 .gt n 8 = true from decide_eq_true h8]
    exact e0 (fd_out (Or.inr h8))
  rw [show pm_c2 .gt n 8 = false from decide_eq_false h8]
  obtain ⟨m, rfl, m1, m8⟩ := fd_in h0 h8
  refine px_seg 6 (pc' := bif pm_c2 .le (I 0 1 + nI m) (nI 3000) then 25 else 23) (L' := [(0, .ref 0), (1, .long (lN N)), (3, .int (nI m))]) (S' := []) (h' := pg I J K T) (fun _ => rfl) ?_
  rw [hI, nI_add, pb_le (by omega) (by decide)]
  by_cases h3 : l + m ≤ 3000
  · rw [decide_eq_true h3]
    refine px_seg 2 (pc' := 28) (L' := [(4, .int (nI 0)), (0, .ref 0), (1, .long (lN N)), (3, .int (nI m))]) (S' := []) (h' := pg I J K T) (fun _ => rfl) ?_
    refine fd_loop1 hN m8 (fun j hj hb => q0 ?_) (fun hall => ?_) m 0 (by omega) (fun j hj => absurd hj (by omega))
    · rintro ⟨m2, e, -, a1, -, hall⟩
      have := (nI_eq (a := m) (b := m2) (by omega) (by omega)).mp e
      subst this
      rw [hall j hj] at hb
      cases hb
    · refine px_seg 4 (pc' := 59) (L' := [(4, .int (nI m - 1)), (0, .ref 0), (1, .long (lN N)), (3, .int (nI m))]) (S' := []) (h' := pg I J K T) (fun _ => rfl) ?_
      exact fd_loop2 hN m8 h3 I (fun I' e F => q1 m I' rfl ⟨m, rfl, m1, m8, h3, hall⟩ e F) m I (Nat.le_refl m) (by rw [hI]; congr 1; omega) (fd_fr_rf I)
  · rw [decide_eq_false h3]
    refine e0 ?_
    rintro ⟨m2, e, -, a1, a2, -⟩
    have := (nI_eq (a := m) (b := m2) (by omega) (by omega)).mp e
    omega
