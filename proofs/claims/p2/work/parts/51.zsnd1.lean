/-! The calculus is sound: numbers, locals, the heap -/
theorem zi_rng (x : Int32) : ∃ c : Int, x = Int32.ofInt c ∧ -2147483648 ≤ c ∧ c < 2147483648 :=
  ⟨x.toInt, (Int32.ofInt_toInt x).symm, by have := x.le_toInt; omega, by have := x.toInt_lt; omega⟩
theorem zl_rng (x : Int64) : ∃ c : Int, x = Int64.ofInt c ∧ -9223372036854775808 ≤ c ∧ c < 9223372036854775808 :=
  ⟨x.toInt, (Int64.ofInt_toInt x).symm, by have := x.le_toInt; omega, by have := x.toInt_lt; omega⟩
section ZI
variable {x y : Int}
theorem zi_to (h1 : -2147483648 ≤ x) (h2 : x < 2147483648) : (Int32.ofInt x).toInt = x := Int32.toInt_ofInt_of_le (by omega) (by omega)
theorem zl_to (h1 : -9223372036854775808 ≤ x) (h2 : x < 9223372036854775808) : (Int64.ofInt x).toInt = x := Int64.toInt_ofInt_of_le (by omega) (by omega)
theorem zi_eq (h1 : -2147483648 ≤ x ∧ x < 2147483648) (h2 : -2147483648 ≤ y ∧ y < 2147483648) : Int32.ofInt x = Int32.ofInt y ↔ x = y := by
  rw [← Int32.toInt_inj, zi_to h1.1 h1.2, zi_to h2.1 h2.2]
theorem zi_lt (h1 : -2147483648 ≤ x ∧ x < 2147483648) (h2 : -2147483648 ≤ y ∧ y < 2147483648) : Int32.ofInt x < Int32.ofInt y ↔ x < y := by
  rw [Int32.lt_iff_toInt_lt, zi_to h1.1 h1.2, zi_to h2.1 h2.2]
theorem zi_le (h1 : -2147483648 ≤ x ∧ x < 2147483648) (h2 : -2147483648 ≤ y ∧ y < 2147483648) : Int32.ofInt x ≤ Int32.ofInt y ↔ x ≤ y := by
  rw [Int32.le_iff_toInt_le, zi_to h1.1 h1.2, zi_to h2.1 h2.2]
theorem zi_00 : (0 : Int32) = Int32.ofInt 0 := by decide
theorem zi_z : -2147483648 ≤ (0 : Int) ∧ (0 : Int) < 2147483648 := by omega
theorem zc2_cases {c : ClassFile.Cond} (h1 : -2147483648 ≤ x ∧ x < 2147483648) (h2 : -2147483648 ≤ y ∧ y < 2147483648) : (pm_c2 c (Int32.ofInt x) (Int32.ofInt y) = true ∧ zc2 c x y) ∨ (pm_c2 c (Int32.ofInt x) (Int32.ofInt y) = false ∧ zn2 c x y) := by
  cases c with
  | eq =>
    by_cases q : x = y
    · exact Or.inl ⟨decide_eq_true ((zi_eq h1 h2).mpr q), q⟩
    · exact Or.inr ⟨decide_eq_false (fun z => q ((zi_eq h1 h2).mp z)), q⟩
  | ne =>
    by_cases q : x = y
    · exact Or.inr ⟨by show (!decide (Int32.ofInt x = Int32.ofInt y)) = false; rw [decide_eq_true ((zi_eq h1 h2).mpr q)]; rfl, q⟩
    · exact Or.inl ⟨by show (!decide (Int32.ofInt x = Int32.ofInt y)) = true; rw [decide_eq_false (fun z => q ((zi_eq h1 h2).mp z))]; rfl, q⟩
  | lt =>
    by_cases q : x < y
    · exact Or.inl ⟨decide_eq_true ((zi_lt h1 h2).mpr q), q⟩
    · exact Or.inr ⟨decide_eq_false (fun z => q ((zi_lt h1 h2).mp z)), Int.not_lt.mp q⟩
  | ge =>
    by_cases q : y ≤ x
    · exact Or.inl ⟨decide_eq_true ((zi_le h2 h1).mpr q), q⟩
    · exact Or.inr ⟨decide_eq_false (fun z => q ((zi_le h2 h1).mp z)), Int.not_le.mp q⟩
  | gt =>
    by_cases q : y < x
    · exact Or.inl ⟨decide_eq_true ((zi_lt h2 h1).mpr q), q⟩
    · exact Or.inr ⟨decide_eq_false (fun z => q ((zi_lt h2 h1).mp z)), Int.not_lt.mp q⟩
  | le =>
    by_cases q : x ≤ y
    · exact Or.inl ⟨decide_eq_true ((zi_le h1 h2).mpr q), q⟩
    · exact Or.inr ⟨decide_eq_false (fun z => q ((zi_le h1 h2).mp z)), Int.not_le.mp q⟩
theorem zc0_cases {c : ClassFile.Cond} (h1 : -2147483648 ≤ x ∧ x < 2147483648) : (pm_c0 c (Int32.ofInt x) = true ∧ zc0 c x) ∨ (pm_c0 c (Int32.ofInt x) = false ∧ zn0 c x) := by
  have e : pm_c0 c (Int32.ofInt x) = pm_c2 c (Int32.ofInt x) (Int32.ofInt 0) := by
    cases c <;> (unfold pm_c0 pm_c2; rw [zi_00])
  rw [e]
  have := zc2_cases (c := c) h1 zi_z
  cases c <;> exact this
theorem zlc_cases (h1 : -9223372036854775808 ≤ x ∧ x < 9223372036854775808) (h2 : -9223372036854775808 ≤ y ∧ y < 9223372036854775808) : (lg_cmp (Int64.ofInt x) (Int64.ofInt y) = Int32.ofInt (-1) ∧ x < y) ∨ (lg_cmp (Int64.ofInt x) (Int64.ofInt y) = Int32.ofInt 0 ∧ x = y) ∨ (lg_cmp (Int64.ofInt x) (Int64.ofInt y) = Int32.ofInt 1 ∧ y < x) := by
  have e1 := zl_to h1.1 h1.2
  have e2 := zl_to h2.1 h2.2
  have q1 : (Int64.ofInt x > Int64.ofInt y) ↔ y < x := by
    show Int64.ofInt y < Int64.ofInt x ↔ _
    rw [Int64.lt_iff_toInt_lt, e1, e2]
  have q2 : (Int64.ofInt x = Int64.ofInt y) ↔ x = y := by
    rw [← Int64.toInt_inj, e1, e2]
  unfold lg_cmp
  rcases Int.lt_trichotomy x y with z | z | z
  · refine Or.inl ⟨?_, z⟩
    rw [if_neg (fun w => by have := q1.mp w; omega), if_neg (fun w => by have := q2.mp w; omega)]
    decide
  · refine Or.inr (Or.inl ⟨?_, z⟩)
    rw [if_neg (fun w => by have := q1.mp w; omega), if_pos (q2.mpr z)]
    decide
  · refine Or.inr (Or.inr ⟨?_, z⟩)
    rw [if_pos (q1.mpr z)]
    decide
end ZI
set_option maxRecDepth 100000 in
theorem zlen_all : (List.range 75).all (fun a => Nat.ble (pm_sh pm_swA a).2 12000) = true := by decide +kernel
set_option maxRecDepth 100000 in
theorem zsw_len : pm_swA.length = 75 := by decide +kernel
theorem zlen (a : Nat) : (pm_sh pm_swA a).2 ≤ 12000 := by
  rcases Nat.lt_or_ge a 75 with h | h
  · exact Nat.le_of_ble_eq_true (List.all_eq_true.mp zlen_all a (List.mem_range.mpr h))
  · unfold pm_sh
    rw [List.getD_eq_getElem?_getD, List.getElem?_eq_none (by rw [zsw_len]; exact h)]
    exact Nat.zero_le _
theorem zinb {j : Int} {n : Nat} (hn : n ≤ 12000) (h : 0 ≤ j ∧ j < (n : Int)) : pm_inb (Int32.ofInt j) n = true ∧ (Int32.ofInt j).toNatClampNeg = j.toNat := by
  have e : (Int32.ofInt j).toNatClampNeg = j.toNat := Int32.toNatClampNeg_ofInt_of_le (by omega) (by omega)
  refine ⟨?_, e⟩
  unfold pm_inb
  rw [e]
  have h1 : ¬ Int32.ofInt j < 0 := by
    rw [zi_00, zi_lt (by omega) zi_z]
    omega
  rw [decide_eq_false h1]
  exact Nat.ble_eq_true_of_le (show j.toNat + 1 ≤ n by omega)
theorem znn {j : Int} (h0 : 0 ≤ j) (h1 : j < 2147483648) : decide (Int32.ofInt j < 0) = false ∧ (Int32.ofInt j).toNatClampNeg = j.toNat := by
  refine ⟨decide_eq_false ?_, Int32.toNatClampNeg_ofInt_of_le (by omega) (by omega)⟩
  rw [zi_00, zi_lt (by omega) zi_z]
  omega
/-! locals -/
def zlr (M : zM) (L : pm_L) : Prop := ∀ k v, zat M k = some v → pm_at L k = some (zV v)
theorem zset_some : ∀ {M : zM} {k j : Nat} {v : Option zv} {w : zv}, zat (zset M k v) j = some w → (j = k ∧ v = some w) ∨ (j ≠ k ∧ zat M j = some w) := by
  intro M
  induction M with
  | nil => intro k j v w h; cases h
  | cons x M ih =>
    intro k j v w h
    cases k with
    | zero =>
      cases j with
      | zero => exact Or.inl ⟨rfl, h⟩
      | succ j => exact Or.inr ⟨by omega, h⟩
    | succ k =>
      cases j with
      | zero => exact Or.inr ⟨by omega, h⟩
      | succ j =>
        rcases ih (k := k) (j := j) h with ⟨e1, e2⟩ | ⟨e1, e2⟩
        · exact Or.inl ⟨by omega, e2⟩
        · exact Or.inr ⟨by omega, e2⟩
theorem zkl_some {M : zM} {k j : Nat} {w : zv} (h : zat (zkl M k) j = some w) : zat M j = some w ∧ ¬ (j + 1 = k ∧ zisl (some w) = true) := by
  cases k with
  | zero => exact ⟨h, fun z => by omega⟩
  | succ k =>
    have h : zat (bif zisl (zat M k) then zset M k none else M) j = some w := h
    cases hb : zisl (zat M k) with
    | true =>
      rw [hb] at h
      rcases zset_some h with ⟨e1, e2⟩ | ⟨e1, e2⟩
      · cases e2
      · exact ⟨e2, fun z => e1 (by omega)⟩
    | false =>
      rw [hb] at h
      refine ⟨h, fun z => ?_⟩
      have e : j = k := by omega
      subst e
      have h : zat M j = some w := h
      rw [h, z.2] at hb
      cases hb
theorem zcat_l (w : zv) : ((zV w).category == 2) = zisl (some w) := by
  rcases w with n | n | r <;> rfl
theorem pm_at_filter {p : Nat × Value → Bool} : ∀ {L : pm_L} {j : Nat} {v : Value}, pm_at L j = some v → p (j, v) = true → pm_at (L.filter p) j = some v := by
  intro L
  induction L with
  | nil => intro j v h; cases h
  | cons q L ih =>
    intro j v h hp
    unfold pm_at at h
    cases hb : Nat.beq q.1 j with
    | true =>
      rw [hb] at h
      have h1 : q.1 = j := Nat.eq_of_beq_eq_true hb
      have h2 : q.2 = v := Option.some.inj h
      have h3 : q = (j, v) := by rw [← h1, ← h2]
      rw [List.filter_cons, h3, if_pos hp]
      unfold pm_at
      rw [Nat.beq_refl]
      rfl
    | false =>
      rw [hb] at h
      have h : pm_at L j = some v := h
      rw [List.filter_cons]
      split
      · unfold pm_at
        rw [hb]
        exact ih h hp
      · exact ih h hp
theorem pm_at_cons {L : pm_L} {k : Nat} {v : Value} : pm_at ((k, v) :: L) k = some v := by
  unfold pm_at
  rw [Nat.beq_refl]
  rfl
theorem pm_at_cons_ne {L : pm_L} {k j : Nat} {v : Value} (h : j ≠ k) : pm_at ((k, v) :: L) j = pm_at L j := by
  conv => lhs; unfold pm_at
  rw [pg_nb h]
  rfl
theorem zlr_st1 {M : zM} {L : pm_L} (hL : zlr M L) (k : Nat) (v : zv) : zlr (zst1 M k v) (pm_st1 L k (zV v)) := by
  intro j w h
  unfold pm_st1
  rcases zset_some h with ⟨e1, e2⟩ | ⟨e1, e2⟩
  · subst e1
    cases e2
    exact pm_at_cons
  · rw [pm_at_cons_ne e1]
    obtain ⟨q1, q2⟩ := zkl_some e2
    refine pm_at_filter (hL _ _ q1) ?_
    show (!(j == k) && !(j + 1 == k && (zV w).category == 2)) = true
    rw [zcat_l, beq_eq_false_iff_ne.mpr e1]
    cases hj : (j + 1 == k) with
    | false => rfl
    | true =>
      cases hw : zisl (some w) with
      | false => rfl
      | true => exact absurd ⟨by simpa using hj, hw⟩ q2
theorem zlr_st2 {M : zM} {L : pm_L} (hL : zlr M L) (k : Nat) (v : zv) : zlr (zst2 M k v) (pm_st2 L k (zV v)) := by
  intro j w h
  unfold pm_st2
  rcases zset_some h with ⟨e1, e2⟩ | ⟨e1, e2⟩
  · subst e1
    cases e2
    exact pm_at_cons
  · rw [pm_at_cons_ne e1]
    rcases zset_some e2 with ⟨e3, e4⟩ | ⟨e3, e4⟩
    · cases e4
    · obtain ⟨q1, q2⟩ := zkl_some e4
      refine pm_at_filter (hL _ _ q1) ?_
      show (!(j == k) && (!(j == k + 1) && !(j + 1 == k && (zV w).category == 2))) = true
      rw [zcat_l, beq_eq_false_iff_ne.mpr e1, beq_eq_false_iff_ne.mpr e3]
      cases hj : (j + 1 == k) with
      | false => rfl
      | true =>
        cases hw : zisl (some w) with
        | false => rfl
        | true => exact absurd ⟨by simpa using hj, hw⟩ q2
theorem zlr_for : ∀ (F : List Nat) {M : zM} {L : pm_L}, zlr M L → zlr (zfor F M) L := by
  intro F
  induction F with
  | nil => intro M L h; exact h
  | cons k F ih =>
    intro M L h
    refine ih (fun j w e => ?_)
    rcases zset_some e with ⟨e1, e2⟩ | ⟨e1, e2⟩
    · cases e2
    · exact h j w e2
theorem znone_no : ∀ (n k : Nat) {w : zv}, zat (znone n) k = some w → False := by
  intro n
  induction n with
  | zero => intro k w h; cases h
  | succ n ih =>
    intro k w h
    cases k with
    | zero => cases h
    | succ k => exact ih k h
theorem zarg_lr : ∀ (as : List zv) (n i k : Nat) (w : zv), zat (zarg n as) k = some w → pm_at (lv_args i (as.map zV)) (i + k) = some (zV w) := by
  intro as
  induction as with
  | nil => intro n i k w h; exact (znone_no n k h).elim
  | cons v as ih =>
    intro n i k w h
    unfold zarg at h
    show pm_at ((i, zV v) :: lv_args (if (zV v).category = 2 then i + 2 else i + 1) (as.map zV)) (i + k) = some (zV w)
    cases k with
    | zero =>
      have h : some v = some w := h
      cases h
      exact pm_at_cons
    | succ k =>
      rw [pm_at_cons_ne (by omega)]
      have hc := zcat_l v
      cases hb : zisl (some v) with
      | true =>
        rw [hb] at h hc
        rw [if_pos (by simpa using hc)]
        cases k with
        | zero => cases h
        | succ k =>
          rw [show i + (k + 1 + 1) = i + 2 + k by omega]
          exact ih _ _ _ _ h
      | false =>
        rw [hb] at h hc
        rw [if_neg (by simpa using hc), show i + (k + 1) = i + 1 + k by omega]
        exact ih _ _ _ _ h
theorem zarg_ok (n : Nat) (as : List zv) : zlr (zarg n as) (lv_args 0 (as.map zV)) := fun k w h => by
  have := zarg_lr as n 0 k w h
  rwa [Nat.zero_add] at this
theorem zcats_ok : ∀ S : List zv, pm_cats (S.map zV) = zcats S := by
  intro S
  induction S with
  | nil => rfl
  | cons v S ih =>
    unfold pm_cats at *
    rw [List.map_cons, List.map_cons, List.sum_cons, ih]
    show _ = zcat v + zcats S
    congr 1
    rcases v with n | n | r <;> rfl
theorem zsl_ok : ∀ S : List zv, (lg_sl (S.map zV)).length = zcats S := by
  intro S
  induction S with
  | nil => rfl
  | cons v S ih =>
    unfold lg_sl at *
    rw [List.map_cons, List.flatMap_cons, List.length_append, ih]
    show _ = zcat v + zcats S
    congr 1
    rcases v with n | n | r <;> rfl
/-! the heap -/
theorem zu_ap (f : zF) (a k i j : Nat) (v : Int) : zu f a k v i j = if i = a ∧ j = k then v else f i j := by
  unfold zu
  by_cases h1 : i = a
  · by_cases h2 : j = k
    · subst h1; subst h2
      rw [Nat.beq_refl, Nat.beq_refl, if_pos ⟨rfl, rfl⟩]
      rfl
    · subst h1
      rw [Nat.beq_refl, pg_nb (fun z => h2 z.symm), if_neg (fun z => h2 z.2)]
      rfl
  · rw [pg_nb (fun z => h1 z.symm), if_neg (fun z => h1 z.1)]
    rfl
theorem zua_ap (f : zF) (a i j : Nat) (g : Nat → Int) : zua f a g i j = if i = a then g j else f i j := by
  unfold zua
  by_cases h1 : i = a
  · subst h1
    rw [Nat.beq_refl, if_pos rfl]
    rfl
  · rw [pg_nb (fun z => h1 z.symm), if_neg h1]
    rfl
theorem zut_ap (T : zT) (k r j : Nat) : zut T k r j = if j = k then some r else T j := by
  unfold zut
  by_cases h1 : j = k
  · subst h1
    rw [Nat.beq_refl, if_pos rfl]
    rfl
  · rw [pg_nb (fun z => h1 z.symm), if_neg h1]
    rfl
theorem zrd_wr (h : zh) (a k i j : Nat) (v : Int) : zrd (zwr h a k v) i j = if i = a ∧ j = k then v else zrd h i j := by
  unfold zrd zwr
  cases ha : Nat.blt a 39 with
  | true =>
    cases hi : Nat.blt i 39 with
    | true => exact zu_ap _ _ _ _ _ _
    | false =>
      have : ¬ (i = a ∧ j = k) := fun z => by rw [z.1, ha] at hi; cases hi
      rw [if_neg this]
      rfl
  | false =>
    cases hi : Nat.blt i 39 with
    | false => exact zu_ap _ _ _ _ _ _
    | true =>
      have : ¬ (i = a ∧ j = k) := fun z => by rw [z.1, ha] at hi; cases hi
      rw [if_neg this]
      rfl
theorem zrd_wa (h : zh) (a i j : Nat) (g : Nat → Int) : zrd (zwa h a g) i j = if i = a then g j else zrd h i j := by
  unfold zrd zwa
  cases ha : Nat.blt a 39 with
  | true =>
    cases hi : Nat.blt i 39 with
    | true => exact zua_ap _ _ _ _ _
    | false =>
      have : ¬ (i = a) := fun z => by rw [z, ha] at hi; cases hi
      rw [if_neg this]
      rfl
  | false =>
    cases hi : Nat.blt i 39 with
    | false => exact zua_ap _ _ _ _ _
    | true =>
      have : ¬ (i = a) := fun z => by rw [z, ha] at hi; cases hi
      rw [if_neg this]
      rfl
theorem zwr_2 (h : zh) (a k : Nat) (v : Int) : (zc (zwr h a k v)).2 = (zc h).2 := by
  unfold zwr
  cases Nat.blt a 39 <;> rfl
theorem zwa_2 (h : zh) (a : Nat) (g : Nat → Int) : (zc (zwa h a g)).2 = (zc h).2 := by
  unfold zwa
  cases Nat.blt a 39 <;> rfl
theorem zc_I (h : zh) (a k : Nat) (v : Int) : pm_setI (zc h) a k (Int32.ofInt v) = zc (zwr h a k v) := by
  refine Prod.ext ?_ (zwr_2 h a k v).symm
  funext i j
  show va_up (zc h).1 a (va_up ((zc h).1 a) k (Int32.ofInt v)) i j = Int32.ofInt (zrd (zwr h a k v) i j)
  rw [zrd_wr]
  by_cases h1 : i = a
  · subst h1
    rw [va_up_self]
    by_cases h2 : j = k
    · subst h2
      rw [va_up_self, if_pos ⟨rfl, rfl⟩]
    · rw [va_up_ne _ _ h2, if_neg (fun z => h2 z.2)]
      rfl
  · rw [va_up_ne _ _ h1, if_neg (fun z => h1 z.1)]
    rfl
theorem zc_A (h : zh) (b : Nat) (f : Nat → Int32) (g : Nat → Int) (hfg : ∀ j, f j = Int32.ofInt (g j)) : (va_up (zc h).1 b f, (zc h).2.1, (zc h).2.2) = zc (zwa h b g) := by
  refine Prod.ext ?_ (zwa_2 h b g).symm
  funext i j
  show va_up (zc h).1 b f i j = Int32.ofInt (zrd (zwa h b g) i j)
  rw [zrd_wa]
  by_cases h1 : i = b
  · subst h1
    rw [va_up_self, if_pos rfl, hfg]
  · rw [va_up_ne _ _ h1, if_neg h1]
    rfl
theorem zc_L (h : zh) (a k : Nat) (v : Int) : pm_setL (zc h) a k (Int64.ofInt v) = zc (h.1, h.2.1, zu h.2.2.1 a k v, h.2.2.2.1, h.2.2.2.2) := by
  refine Prod.ext rfl (Prod.ext ?_ rfl)
  funext i j
  show va_up (zc h).2.1 a (va_up ((zc h).2.1 a) k (Int64.ofInt v)) i j = Int64.ofInt (zu h.2.2.1 a k v i j)
  rw [zu_ap]
  by_cases h1 : i = a
  · subst h1
    rw [va_up_self]
    by_cases h2 : j = k
    · subst h2
      rw [va_up_self, if_pos ⟨rfl, rfl⟩]
    · rw [va_up_ne _ _ h2, if_neg (fun z => h2 z.2)]
      rfl
  · rw [va_up_ne _ _ h1, if_neg (fun z => h1 z.1)]
    rfl
theorem zc_K (h : zh) (r : Nat) : pm_setR (zc h) 19 9 (some r) = zc (h.1, h.2.1, h.2.2.1, r, h.2.2.2.2) := by
  refine Prod.ext rfl (Prod.ext rfl ?_)
  funext i j
  show va_up (zc h).2.2 19 (va_up ((zc h).2.2 19) 9 (some r)) i j = pg_r (some r) h.2.2.2.2 i j
  by_cases h1 : i = 19
  · subst h1
    rw [va_up_self]
    by_cases h2 : j = 9
    · subst h2
      rw [va_up_self]
      rfl
    · rw [va_up_ne _ _ h2]
      show pg_r (some h.2.2.2.1) h.2.2.2.2 19 j = _
      unfold pg_r
      rw [pg_nb (fun z => h2 z.symm)]
      rfl
  · rw [va_up_ne _ _ h1]
    show pg_r (some h.2.2.2.1) h.2.2.2.2 i j = _
    unfold pg_r
    rw [show Nat.beq i 19 = false from pg_nb (fun z => h1 z.symm)]
    rfl
theorem zc_T (h : zh) (k r : Nat) : pm_setR (zc h) 21 k (some r) = zc (h.1, h.2.1, h.2.2.1, h.2.2.2.1, zut h.2.2.2.2 k r) := by
  refine Prod.ext rfl (Prod.ext rfl ?_)
  funext i j
  show va_up (zc h).2.2 21 (va_up ((zc h).2.2 21) k (some r)) i j = pg_r (some h.2.2.2.1) (zut h.2.2.2.2 k r) i j
  by_cases h1 : i = 21
  · subst h1
    rw [va_up_self]
    show _ = zut h.2.2.2.2 k r j
    rw [zut_ap]
    by_cases h2 : j = k
    · subst h2
      rw [va_up_self, if_pos rfl]
    · rw [va_up_ne _ _ h2, if_neg h2]
      rfl
  · rw [va_up_ne _ _ h1]
    show pg_r (some h.2.2.2.1) h.2.2.2.2 i j = _
    unfold pg_r
    rw [show Nat.beq i 21 = false from pg_nb (fun z => h1 z.symm)]
    rfl
/-! fields of the kinds -/
set_option maxRecDepth 100000 in
theorem zkv_all : (List.range 39).all (fun k => (match pm_kv pm_kof (1000 + k) 1 with
  | some (.int x) => decide (x = Int32.ofInt (zlev (1000 + k)))
  | _ => false) && ((match pm_kv pm_kof (1000 + k) 2 with
  | some (.int x) => decide (x = Int32.ofInt (zop (1000 + k)))
  | _ => false) && (match pm_kv pm_kof (1000 + k) 0 with
  | some (.ref x) => Nat.beq x (1000 + k + 2000)
  | _ => false))) = true := by decide +kernel
theorem zkv_ok {a : Nat} (h1 : 1000 ≤ a) (h2 : a < 1039) : pm_kv pm_kof a 1 = some (.int (Int32.ofInt (zlev a))) ∧ pm_kv pm_kof a 2 = some (.int (Int32.ofInt (zop a))) ∧ pm_kv pm_kof a 0 = some (.ref (a + 2000)) := by
  have h := List.all_eq_true.mp zkv_all (a - 1000) (List.mem_range.mpr (by omega))
  rw [show 1000 + (a - 1000) = a by omega] at h
  obtain ⟨q1, q2⟩ := Bool.and_eq_true_iff.mp h
  obtain ⟨q3, q4⟩ := Bool.and_eq_true_iff.mp q2
  refine ⟨?_, ?_, ?_⟩
  · split at q1
    · rename_i x e; rw [e, of_decide_eq_true q1]
    · cases q1
  · split at q3
    · rename_i x e; rw [e, of_decide_eq_true q3]
    · cases q3
  · split at q4
    · rename_i x e; rw [e, Nat.eq_of_beq_eq_true q4]
    · cases q4
