/-- what a feed leaves of the model's ints -/
def fm_fr (I I' : Nat → Nat → Int32) : Prop := (∀ i, i ≠ 39 → i ≠ 40 → I' i = I i) ∧ (∀ j, j ≠ 0 → j ≠ 3 → I' 39 j = I 39 j) ∧ (∀ j, I' 40 j = I 40 j ∨ ∃ b, b < 256 ∧ I' 40 j = nI b)
theorem fm_fr_rf (I : Nat → Nat → Int32) : fm_fr I I := ⟨fun _ _ _ => rfl, fun _ _ _ => rfl, fun _ => Or.inl rfl⟩
theorem fm_fr_39 {I I' : Nat → Nat → Int32} (h : fm_fr I I') {k : Nat} (hk : k = 0 ∨ k = 3) (v : Int32) : fm_fr I (va_up I' 39 (va_up (I' 39) k v)) := by
  obtain ⟨f1, f2, f3⟩ := h
  refine ⟨fun i h0 h1 => ?_, fun j h0 h3 => ?_, fun j => ?_⟩
  · rw [va_up_ne _ _ h0]
    exact f1 i h0 h1
  · rw [va_up_self, va_up_ne _ _ (show j ≠ k by omega)]
    exact f2 j h0 h3
  · rw [va_up_ne _ _ (show (40 : Nat) ≠ 39 by decide)]
    exact f3 j
theorem fm_sub {m k : Nat} (h : k < m) : nI m - 1 - nI k = nI (m - 1 - k) := by
  rw [show (1 : Int32) = nI 1 from rfl, pk_sub (by omega), pk_sub (by omega)]
abbrev fm_bs (N : Nat) (n : Int32) : pm_L := [(0, .ref 39), (1, .long (lN N)), (3, .int n)]
abbrev fm_X (X : pm_L) : Prop := X = [] ∨ ∃ c, X = [(6, .long c)]
section FM1
variable {d N m l : Nat} {n : Int32} {I : Nat → Nat → Int32} {J : Nat → Nat → Int64} {K : Option Nat} {T : Nat → Option Nat} {Q : Option Value → pm_H → Prop}
theorem fm_end0 {X : pm_L} (hX : fm_X X) (k : Int32) (q : Q (some (.int 0)) (pg (va_up I 39 (va_up (I 39) 3 (I 39 3))) J K T)) : px d 1 101 ((5, .int k) :: (4, .int 0) :: (X ++ fm_bs N n)) [] (pg I J K T) Q := by
  have e : px d 1 150 ((5, .int (nI 0)) :: (4, .int 0) :: (X ++ fm_bs N n)) [] (pg I J K T) Q := by
    rcases hX with rfl | ⟨c, rfl⟩
    · exact px_seg 7 (pc' := 174) (L' := [(5, .int (nI 0)), (4, .int 0), (0, .ref 39), (1, .long (lN N)), (3, .int n)]) (S' := [.int 0]) (h' := pg (va_up I 39 (va_up (I 39) 3 (I 39 3))) J K T) (fun _ => rfl) (px_rb rfl rfl (Or.inl rfl) q)
    · exact px_seg 7 (pc' := 174) (L' := [(5, .int (nI 0)), (4, .int 0), (6, .long c), (0, .ref 39), (1, .long (lN N)), (3, .int n)]) (S' := [.int 0]) (h' := pg (va_up I 39 (va_up (I 39) 3 (I 39 3))) J K T) (fun _ => rfl) (px_rb rfl rfl (Or.inl rfl) q)
  refine px_seg 5 (pc' := bif pm_c2 .ge (nI 0) n then 150 else 110) (L' := (5, .int (nI 0)) :: (4, .int 0) :: (X ++ fm_bs N n)) (S' := []) (h' := pg I J K T) (fun _ => by rcases hX with rfl | ⟨c, rfl⟩ <;> rfl) ?_
  cases pm_c2 .ge (nI 0) n with
  | true => exact e
  | false => exact px_seg 2 (pc' := 150) (L' := (5, .int (nI 0)) :: (4, .int 0) :: (X ++ fm_bs N n)) (S' := []) (h' := pg I J K T) (fun _ => by rcases hX with rfl | ⟨c, rfl⟩ <;> rfl) e
theorem fm_l0 {X : pm_L} (hX : fm_X X) (k : Int32) (q : px d 1 101 ((5, .int k) :: (4, .int 0) :: (X ++ fm_bs N n)) [] (pg I J K T) Q) : px d 1 37 ((5, .int k) :: (4, .int 0) :: (X ++ fm_bs N n)) [] (pg I J K T) Q := by
  refine px_seg 3 (pc' := bif pm_c2 .ge k n then 101 else 43) (L' := (5, .int k) :: (4, .int 0) :: (X ++ fm_bs N n)) (S' := []) (h' := pg I J K T) (fun _ => by rcases hX with rfl | ⟨c, rfl⟩ <;> rfl) ?_
  cases pm_c2 .ge k n with
  | true => exact q
  | false => exact px_seg 2 (pc' := 101) (L' := (5, .int k) :: (4, .int 0) :: (X ++ fm_bs N n)) (S' := []) (h' := pg I J K T) (fun _ => by rcases hX with rfl | ⟨c, rfl⟩ <;> rfl) q
theorem fm_loop2 {X : pm_L} (hX : fm_X X) (hm : m ≤ 8) (hl : l + m ≤ 3000) (I0 : Nat → Nat → Int32)
    (q : ∀ I, I 39 3 = nI (l + m) → fm_fr I0 I → Q (some (.int 1)) (pg I J K T)) :
    ∀ r k I, k + r = m → I 39 3 = nI l → fm_fr I0 I → px d 1 104 ((5, .int (nI k)) :: (4, .int 1) :: (X ++ fm_bs N (nI m))) [] (pg I J K T) Q := by
  intro r
  induction r with
  | zero =>
    intro k I hk hI hF
    have hk : k = m := by omega
    subst hk
    refine px_seg 3 (pc' := bif pm_c2 .ge (nI k) (nI k) then 150 else 110) (L' := (5, .int (nI k)) :: (4, .int 1) :: (X ++ fm_bs N (nI k))) (S' := []) (h' := pg I J K T) (fun _ => by rcases hX with rfl | ⟨c, rfl⟩ <;> rfl) ?_
    rw [pb_ge (by omega) (by omega), decide_eq_true (Nat.le_refl k)]
    refine px_seg 10 (pc' := 174) (L' := (5, .int (nI k)) :: (4, .int 1) :: (X ++ fm_bs N (nI k))) (S' := [.int 1]) (h' := pg (va_up I 39 (va_up (I 39) 3 (I 39 3 + nI k))) J K T) (fun _ => by rcases hX with rfl | ⟨c, rfl⟩ <;> rfl) ?_
    exact px_rb rfl rfl (Or.inr rfl) (q _ (by rw [va_up_self, va_up_self, hI, nI_add]) (fm_fr_39 hF (Or.inr rfl) _))
  | succ r ih =>
    intro k I hk hI hF
    refine px_seg 3 (pc' := bif pm_c2 .ge (nI k) (nI m) then 150 else 110) (L' := (5, .int (nI k)) :: (4, .int 1) :: (X ++ fm_bs N (nI m))) (S' := []) (h' := pg I J K T) (fun _ => by rcases hX with rfl | ⟨c, rfl⟩ <;> rfl) ?_
    rw [pb_ge (by omega) (by omega), decide_eq_false (show ¬ m ≤ k by omega)]
    refine px_seg 21 (pc' := 143) (L' := (5, .int (nI k)) :: (4, .int 1) :: (X ++ fm_bs N (nI m))) (S' := [.int ((((lN N >>> (((Int8.ofInt 8).toInt32 * (nI m - 1 - nI k)).toInt64 &&& 63)) &&& lN 255).toInt32.toUInt32 % 65536).toInt32), .int (I 39 3 + nI k), .ref 40]) (h' := pg I J K T) (fun _ => by rcases hX with rfl | ⟨c, rfl⟩ <;> rfl) ?_
    have hb := fd_bl N (m - 1 - k)
    rw [fm_sub (by omega), fd_md (by omega), lN_i, fd_c2 (by omega), hI, nI_add]
    refine px_castore (a := 40) (x := nI (fd_b N (m - 1 - k))) (j := nI (l + k)) (S := []) rfl rfl (pb_inb (show l + k < 3000 by omega) (by decide)) ?_
    rw [fd_vc (by omega), nI_clamp (by omega)]
    refine px_seg 2 (pc' := 104) (L' := (5, .int (nI k + 1)) :: (4, .int 1) :: (X ++ fm_bs N (nI m))) (S' := []) (h' := pg (va_up I 40 (va_up (I 40) (l + k) (nI (fd_b N (m - 1 - k))))) J K T) (fun _ => by rcases hX with rfl | ⟨c, rfl⟩ <;> rfl) ?_
    rw [nI_1]
    refine ih (k + 1) _ (by omega) ?_ ?_
    · rw [va_up_ne _ _ (show (39 : Nat) ≠ 40 by decide), hI]
    · obtain ⟨f1, f2, f3⟩ := hF
      refine ⟨fun i h0 h1 => ?_, fun j h0 h3 => ?_, fun j => ?_⟩
      · rw [va_up_ne _ _ h1]
        exact f1 i h0 h1
      · rw [va_up_ne _ _ (show (39 : Nat) ≠ 40 by decide)]
        exact f2 j h0 h3
      · rw [va_up_self]
        by_cases e : j = l + k
        · subst e
          rw [va_up_self]
          exact Or.inr ⟨_, hb, rfl⟩
        · rw [va_up_ne _ _ e]
          exact f3 j
theorem fm_loop1 (hm : m ≤ 8) (qf : ∀ j, j < m → fd_okb (fd_b N j) = false → ∀ X k, fm_X X → px d 1 101 ((5, .int k) :: (4, .int 0) :: (X ++ fm_bs N (nI m))) [] (pg I J K T) Q)
    (qt : (∀ j, j < m → fd_okb (fd_b N j) = true) → ∀ X k, fm_X X → px d 1 101 ((5, .int k) :: (4, .int 1) :: (X ++ fm_bs N (nI m))) [] (pg I J K T) Q) :
    ∀ r k X, k + r = m → fm_X X → (∀ j, j < k → fd_okb (fd_b N j) = true) → px d 1 37 ((5, .int (nI k)) :: (4, .int 1) :: (X ++ fm_bs N (nI m))) [] (pg I J K T) Q := by
  intro r
  induction r with
  | zero =>
    intro k X hk hX hok
    have hk : k = m := by omega
    subst hk
    refine px_seg 3 (pc' := bif pm_c2 .ge (nI k) (nI k) then 101 else 43) (L' := (5, .int (nI k)) :: (4, .int 1) :: (X ++ fm_bs N (nI k))) (S' := []) (h' := pg I J K T) (fun _ => by rcases hX with rfl | ⟨c, rfl⟩ <;> rfl) ?_
    rw [pb_ge (by omega) (by omega), decide_eq_true (Nat.le_refl k)]
    exact qt hok X _ hX
  | succ r ih =>
    intro k X hk hX hok
    refine px_seg 3 (pc' := bif pm_c2 .ge (nI k) (nI m) then 101 else 43) (L' := (5, .int (nI k)) :: (4, .int 1) :: (X ++ fm_bs N (nI m))) (S' := []) (h' := pg I J K T) (fun _ => by rcases hX with rfl | ⟨c, rfl⟩ <;> rfl) ?_
    rw [pb_ge (by omega) (by omega), decide_eq_false (show ¬ m ≤ k by omega)]
    refine px_seg 9 (pc' := 59) (L' := (5, .int (nI k)) :: (4, .int 1) :: (X ++ fm_bs N (nI m))) (S' := [.long ((lN N >>> (((Int8.ofInt 8).toInt32 * nI k).toInt64 &&& 63)) &&& lN 255)]) (h' := pg I J K T) (fun _ => by rcases hX with rfl | ⟨c, rfl⟩ <;> rfl) ?_
    rw [fd_md (by omega)]
    have hb := fd_bl N k
    have hbad : fd_okb (fd_b N k) = false → px d 1 92 ((6, .long (lN (fd_b N k))) :: (5, .int (nI k)) :: (4, .int 1) :: fm_bs N (nI m)) [] (pg I J K T) Q := fun hf => by
      refine px_seg 4 (pc' := 37) (L' := (5, .int (nI k + 1)) :: (4, .int 0) :: ([(6, .long (lN (fd_b N k)))] ++ fm_bs N (nI m))) (S' := []) (h' := pg I J K T) (fun _ => rfl) ?_
      exact fm_l0 (Or.inr ⟨_, rfl⟩) _ (qf k (by omega) hf _ _ (Or.inr ⟨_, rfl⟩))
    have hgood : fd_okb (fd_b N k) = true → px d 1 88 ((6, .long (lN (fd_b N k))) :: (5, .int (nI k)) :: (4, .int 1) :: fm_bs N (nI m)) [] (pg I J K T) Q := fun hf => by
      refine px_seg 5 (pc' := 37) (L' := (5, .int (nI k + 1)) :: (4, .int 1) :: ([(6, .long (lN (fd_b N k)))] ++ fm_bs N (nI m))) (S' := []) (h' := pg I J K T) (fun _ => rfl) ?_
      rw [nI_1]
      refine ih (k + 1) _ (by omega) (Or.inr ⟨_, rfl⟩) (fun j hj => ?_)
      by_cases e : j = k
      · subst e; exact hf
      · exact hok j (by omega)
    refine px_seg 5 (pc' := bif pm_c0 .eq (lg_cmp (lN (fd_b N k)) (lN 10)) then 88 else 70) (L' := (6, .long (lN (fd_b N k))) :: (5, .int (nI k)) :: (4, .int 1) :: fm_bs N (nI m)) (S' := []) (h' := pg I J K T) (fun _ => by rcases hX with rfl | ⟨c, rfl⟩ <;> rfl) ?_
    rw [pb_leq (by omega) (by decide)]
    by_cases h1 : fd_b N k = 10
    · rw [decide_eq_true h1]
      exact hgood (by unfold fd_okb; rw [decide_eq_true h1]; rfl)
    rw [decide_eq_false h1]
    refine px_seg 4 (pc' := bif pm_c0 .le (lg_cmp (lN (fd_b N k)) (lN 31)) then 92 else 79) (L' := (6, .long (lN (fd_b N k))) :: (5, .int (nI k)) :: (4, .int 1) :: fm_bs N (nI m)) (S' := []) (h' := pg I J K T) (fun _ => rfl) ?_
    rw [pb_lle (by omega) (by decide)]
    by_cases h2 : fd_b N k ≤ 31
    · rw [decide_eq_true h2]
      exact hbad (by unfold fd_okb; rw [decide_eq_false h1, decide_eq_true (show fd_b N k < 32 by omega)]; rfl)
    rw [decide_eq_false h2]
    refine px_seg 4 (pc' := bif pm_c0 .ge (lg_cmp (lN (fd_b N k)) (lN 127)) then 92 else 88) (L' := (6, .long (lN (fd_b N k))) :: (5, .int (nI k)) :: (4, .int 1) :: fm_bs N (nI m)) (S' := []) (h' := pg I J K T) (fun _ => rfl) ?_
    rw [pb_lge (by omega) (by decide)]
    by_cases h3 : 127 ≤ fd_b N k
    · rw [decide_eq_true h3]
      exact hbad (by unfold fd_okb; rw [decide_eq_false h1, decide_eq_false (show ¬ fd_b N k < 32 by omega), decide_eq_true (show 126 < fd_b N k by omega)]; rfl)
    rw [decide_eq_false h3]
    exact hgood (by unfold fd_okb; rw [decide_eq_false h1, decide_eq_false (show ¬ fd_b N k < 32 by omega), decide_eq_false (show ¬ 126 < fd_b N k by omega)]; rfl)
/-- the model's feed -/
theorem fm_2 (hl : l ≤ 3000) (hI : I 39 3 = nI l)
    (q0 : ∀ I', ¬ fd_B N n l → I' 39 3 = nI l → fm_fr I I' → Q (some (.int 0)) (pg I' J K T))
    (q1 : ∀ m I', n = nI m → fd_B N n l → I' 39 3 = nI (l + m) → fm_fr I I' → Q (some (.int 1)) (pg I' J K T)) : px d 1 0 (lv_args 0 [.ref 39, .long (lN N), .int n]) [] (pg I J K T) Q := by
  have hF1 : fm_fr I (va_up I 39 (va_up (I 39) 0 0)) := fm_fr_39 (fm_fr_rf I) (Or.inl rfl) 0
  have hI1 : (va_up I 39 (va_up (I 39) 0 0)) 39 3 = nI l := by rw [va_up_self, va_up_ne _ _ (show (3 : Nat) ≠ 0 by decide), hI]
  refine px_seg 5 (pc' := bif pm_c0 .le n then 31 else 9) (L' := fm_bs N n) (S' := []) (h' := pg (va_up I 39 (va_up (I 39) 0 0)) J K T) (fun _ => rfl) ?_
  generalize hIe : va_up I 39 (va_up (I 39) 0 0) = I1 at hF1 hI1 ⊢
  have e0 : ∀ X k, fm_X X → ¬ fd_B N n l → px d 1 101 ((5, .int k) :: (4, .int 0) :: (X ++ fm_bs N n)) [] (pg I1 J K T) Q := fun X k hX hB => fm_end0 hX k (q0 _ hB (by rw [va_up_self, va_up_self, hI1]) (fm_fr_39 hF1 (Or.inr rfl) _))
  have e1 : ¬ fd_B N n l → px d 1 31 (fm_bs N n) [] (pg I1 J K T) Q := fun hB => px_seg 4 (pc' := 37) (L' := (5, .int 0) :: (4, .int 0) :: ([] ++ fm_bs N n)) (S' := []) (h' := pg I1 J K T) (fun _ => rfl) (fm_l0 (Or.inl rfl) _ (e0 _ _ (Or.inl rfl) hB))
  by_cases h0 : n < 1
  · have h0' : n ≤ 0 := by
      rw [Int32.lt_iff_toInt_lt] at h0
      rw [Int32.le_iff_toInt_le]
      have e0 : (0 : Int32).toInt = 0 := by decide
      have e1 : (1 : Int32).toInt = 1 := by decide
      omega
    rw [show pm_c0 .le n = true from decide_eq_true h0']
    exact e1 (fd_out (Or.inl h0))
  have h0' : ¬ n ≤ 0 := by
    rw [Int32.lt_iff_toInt_lt] at h0
    rw [Int32.le_iff_toInt_le]
    have e0 : (0 : Int32).toInt = 0 := by decide
    have e1 : (1 : Int32).toInt = 1 := by decide
    omega
  rw [show pm_c0 .le n = false from decide_eq_false h0']
  refine px_seg 3 (pc' := bif pm_c2 .ge n 9 then 31 else 15) (L' := fm_bs N n) (S' := []) (h' := pg I1 J K T) (fun _ => rfl) ?_
  by_cases h8 : (8 : Int32) < n
  · have h8' : (9 : Int32) ≤ n := by
      rw [Int32.lt_iff_toInt_lt] at h8
      rw [Int32.le_iff_toInt_le]
      have e0 : (8 : Int32).toInt = 8 := by decide
      have e1 : (9 : Int32).toInt = 9 := by decide
      omega
    rw [show pm_c2 .ge n 9 = true from decide_eq_true h8']
    exact e1 (fd_out (Or.inr h8))
  have h8' : ¬ (9 : Int32) ≤ n := by
    rw [Int32.lt_iff_toInt_lt] at h8
    rw [Int32.le_iff_toInt_le]
    have e0 : (8 : Int32).toInt = 8 := by decide
    have e1 : (9 : Int32).toInt = 9 := by decide
    omega
  rw [show pm_c2 .ge n 9 = false from decide_eq_false h8']
  obtain ⟨m, rfl, m1, m8⟩ := fd_in h0 h8
  refine px_seg 6 (pc' := bif pm_c2 .gt (I1 39 3 + nI m) (nI 3000) then 31 else 27) (L' := fm_bs N (nI m)) (S' := []) (h' := pg I1 J K T) (fun _ => rfl) ?_
  rw [hI1, nI_add, pb_gt (by omega) (by decide)]
  by_cases h3 : 3000 < l + m
  · rw [decide_eq_true h3]
    refine e1 ?_
    rintro ⟨m2, e, -, a1, a2, -⟩
    have := (nI_eq (a := m) (b := m2) (by omega) (by omega)).mp e
    omega
  rw [decide_eq_false h3]
  refine px_seg 5 (pc' := 37) (L' := (5, .int (nI 0)) :: (4, .int 1) :: ([] ++ fm_bs N (nI m))) (S' := []) (h' := pg I1 J K T) (fun _ => rfl) ?_
  refine fm_loop1 m8 (fun j hj hb X k hX => e0 X k hX ?_) (fun hall X k hX => ?_) m 0 [] (by omega) (Or.inl rfl) (fun j hj => absurd hj (by omega))
  · rintro ⟨m2, e, -, a1, -, hall⟩
    have := (nI_eq (a := m) (b := m2) (by omega) (by omega)).mp e
    subst this
    rw [hall j hj] at hb
    cases hb
  · refine px_seg 2 (pc' := 104) (L' := (5, .int (nI 0)) :: (4, .int 1) :: (X ++ fm_bs N (nI m))) (S' := []) (h' := pg I1 J K T) (fun _ => by rcases hX with rfl | ⟨c, rfl⟩ <;> rfl) ?_
    exact fm_loop2 hX m8 (by omega) I (fun I' e F => q1 m I' rfl ⟨m, rfl, m1, m8, by omega, hall⟩ e F) m 0 I1 (by omega) hI1 hF1
end FM1
