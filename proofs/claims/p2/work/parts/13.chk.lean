/-! The instructions' table is what decode says -/
def pm_okc (b : ByteArray) (q : Nat × Instr) : Bool := match decode b q.1 with
  | .ok (i, len) => decide (i = q.2) && (Nat.beq (pm_ln i) 0 || Nat.beq len (pm_ln i))
  | .error _ => false
def pm_okr (lo hi : Nat) : Bool := (List.range (hi - lo)).all (fun k => (pm_code (lo + k)).all (pm_okc (pm_by (lo + k))))
theorem pm_okr_at {lo hi : Nat} (h : pm_okr lo hi = true) {mi : Nat} (h1 : lo ≤ mi) (h2 : mi < hi) : (pm_code mi).all (pm_okc (pm_by mi)) = true := by
  have h3 := List.all_eq_true.mp h (mi - lo) (List.mem_range.mpr (by omega))
  rw [show lo + (mi - lo) = mi by omega] at h3
  exact h3
theorem pm_okr_1 {mi : Nat} (h : (pm_code mi).all (pm_okc (pm_by mi)) = true) : pm_okr mi (mi + 1) = true := by
  unfold pm_okr
  rw [show mi + 1 - mi = 1 by omega]
  refine List.all_eq_true.mpr (fun k hk => ?_)
  have : k = 0 := by have := List.mem_range.mp hk; omega
  subst this
  exact h
theorem pm_all_cut {l : List (Nat × Instr)} {f : Nat × Instr → Bool} (n : Nat) (h1 : (l.take n).all f = true) (h2 : (l.drop n).all f = true) : l.all f = true := by
  rw [← List.take_append_drop n l, List.all_append, h1, h2]
  rfl
set_option maxRecDepth 100000 in
theorem pm_ok_0 : pm_okr 0 8 = true := by decide +kernel
set_option maxRecDepth 100000 in
theorem pm_ok_1 : pm_okr 8 18 = true := by decide +kernel
set_option maxRecDepth 100000 in
theorem pm_ok_2 : pm_okr 18 23 = true := by decide +kernel
set_option maxRecDepth 100000 in
theorem pm_ok_3 : pm_okr 23 24 = true := by decide +kernel
set_option maxRecDepth 100000 in
theorem pm_okp_24_0 : ((pm_code 24).take 203).all (pm_okc (pm_by 24)) = true := by decide +kernel
set_option maxRecDepth 100000 in
theorem pm_okp_24_1 : ((pm_code 24).drop 203).all (pm_okc (pm_by 24)) = true := by decide +kernel
theorem pm_ok_4 : pm_okr 24 25 = true := pm_okr_1 (pm_all_cut 203 pm_okp_24_0 pm_okp_24_1)
set_option maxRecDepth 100000 in
theorem pm_ok_5 : pm_okr 25 36 = true := by decide +kernel
set_option maxRecDepth 100000 in
theorem pm_ok_6 : pm_okr 36 47 = true := by decide +kernel
set_option maxRecDepth 100000 in
theorem pm_ok_7 : pm_okr 47 53 = true := by decide +kernel
set_option maxRecDepth 100000 in
theorem pm_okp_53_0 : ((pm_code 53).take 213).all (pm_okc (pm_by 53)) = true := by decide +kernel
set_option maxRecDepth 100000 in
theorem pm_okp_53_1 : (((pm_code 53).drop 213).take 105).all (pm_okc (pm_by 53)) = true := by decide +kernel
set_option maxRecDepth 100000 in
theorem pm_okp_53_2 : ((((pm_code 53).drop 213).drop 105).take 83).all (pm_okc (pm_by 53)) = true := by decide +kernel
set_option maxRecDepth 100000 in
theorem pm_okp_53_3 : ((((pm_code 53).drop 213).drop 105).drop 83).all (pm_okc (pm_by 53)) = true := by decide +kernel
theorem pm_ok_8 : pm_okr 53 54 = true := pm_okr_1 (pm_all_cut 213 pm_okp_53_0 (pm_all_cut 105 pm_okp_53_1 (pm_all_cut 83 pm_okp_53_2 pm_okp_53_3)))
set_option maxRecDepth 100000 in
theorem pm_ok_9 : pm_okr 54 66 = true := by decide +kernel
set_option maxRecDepth 100000 in
theorem pm_ok_10 : pm_okr 66 102 = true := by decide +kernel
set_option maxRecDepth 100000 in
theorem pm_ok_11 : pm_okr 102 125 = true := by decide +kernel
set_option maxRecDepth 100000 in
theorem pm_ok_12 : pm_okr 125 138 = true := by decide +kernel
set_option maxRecDepth 100000 in
theorem pm_ok_13 : pm_okr 138 160 = true := by decide +kernel
set_option maxRecDepth 100000 in
theorem pm_ok_14 : pm_okr 160 173 = true := by decide +kernel
set_option maxRecDepth 100000 in
theorem pm_okp_173_0 : ((pm_code 173).take 241).all (pm_okc (pm_by 173)) = true := by decide +kernel
set_option maxRecDepth 100000 in
theorem pm_okp_173_1 : ((pm_code 173).drop 241).all (pm_okc (pm_by 173)) = true := by decide +kernel
theorem pm_ok_15 : pm_okr 173 174 = true := pm_okr_1 (pm_all_cut 241 pm_okp_173_0 pm_okp_173_1)
set_option maxRecDepth 100000 in
theorem pm_ok_16 : pm_okr 174 180 = true := by decide +kernel
set_option maxRecDepth 100000 in
theorem pm_cds_len : pm_cds.length = 180 := by decide +kernel
theorem pm_code_none {mi : Nat} (h : 180 ≤ mi) : pm_code mi = [] := by
  unfold pm_code
  rw [List.getD_eq_getElem?_getD, List.getElem?_eq_none (by rw [pm_cds_len]; exact h)]
  rfl
theorem pm_code_ok (mi : Nat) : (pm_code mi).all (pm_okc (pm_by mi)) = true := by
  rcases Nat.lt_or_ge mi 8 with h | h0
  · exact pm_okr_at pm_ok_0 (Nat.zero_le _) h
  rcases Nat.lt_or_ge mi 18 with h | h1
  · exact pm_okr_at pm_ok_1 h0 h
  rcases Nat.lt_or_ge mi 23 with h | h2
  · exact pm_okr_at pm_ok_2 h1 h
  rcases Nat.lt_or_ge mi 24 with h | h3
  · exact pm_okr_at pm_ok_3 h2 h
  rcases Nat.lt_or_ge mi 25 with h | h4
  · exact pm_okr_at pm_ok_4 h3 h
  rcases Nat.lt_or_ge mi 36 with h | h5
  · exact pm_okr_at pm_ok_5 h4 h
  rcases Nat.lt_or_ge mi 47 with h | h6
  · exact pm_okr_at pm_ok_6 h5 h
  rcases Nat.lt_or_ge mi 53 with h | h7
  · exact pm_okr_at pm_ok_7 h6 h
  rcases Nat.lt_or_ge mi 54 with h | h8
  · exact pm_okr_at pm_ok_8 h7 h
  rcases Nat.lt_or_ge mi 66 with h | h9
  · exact pm_okr_at pm_ok_9 h8 h
  rcases Nat.lt_or_ge mi 102 with h | h10
  · exact pm_okr_at pm_ok_10 h9 h
  rcases Nat.lt_or_ge mi 125 with h | h11
  · exact pm_okr_at pm_ok_11 h10 h
  rcases Nat.lt_or_ge mi 138 with h | h12
  · exact pm_okr_at pm_ok_12 h11 h
  rcases Nat.lt_or_ge mi 160 with h | h13
  · exact pm_okr_at pm_ok_13 h12 h
  rcases Nat.lt_or_ge mi 173 with h | h14
  · exact pm_okr_at pm_ok_14 h13 h
  rcases Nat.lt_or_ge mi 174 with h | h15
  · exact pm_okr_at pm_ok_15 h14 h
  rcases Nat.lt_or_ge mi 180 with h | h16
  · exact pm_okr_at pm_ok_16 h15 h
  rw [pm_code_none h16]
  rfl
/-- the instruction at a place -/
def pm_fd : List (Nat × Instr) → Nat → Option Instr
  | [], _ => none
  | q :: l, k => bif Nat.beq q.1 k then some q.2 else pm_fd l k
theorem pm_fd_mem : ∀ {l : List (Nat × Instr)} {k : Nat} {i : Instr}, pm_fd l k = some i → (k, i) ∈ l := by
  intro l
  induction l with
  | nil => intro k v h; cases h
  | cons q l ih =>
    intro k v h
    unfold pm_fd at h
    cases hb : Nat.beq q.1 k with
    | true =>
      rw [hb] at h
      have h1 : q.1 = k := Nat.eq_of_beq_eq_true hb
      have h2 : q.2 = v := Option.some.inj h
      rw [← h1, ← h2]
      exact List.mem_cons_self
    | false =>
      rw [hb] at h
      exact List.mem_cons_of_mem _ (ih h)
theorem pm_decode {mi pc : Nat} {i : Instr} (h : pm_fd (pm_code mi) pc = some i) : ∃ len, decode (pm_by mi) pc = .ok (i, len) ∧ (pm_ln i = 0 ∨ len = pm_ln i) := by
  have h1 := List.all_eq_true.mp (pm_code_ok mi) _ (pm_fd_mem h)
  unfold pm_okc at h1
  split at h1
  · rename_i j len e
    obtain ⟨h2, h3⟩ := Bool.and_eq_true_iff.mp h1
    have h4 : j = i := of_decide_eq_true h2
    subst h4
    refine ⟨len, e, ?_⟩
    rcases (Bool.or_eq_true_iff.mp h3) with h5 | h5
    · exact Or.inl (Nat.eq_of_beq_eq_true h5)
    · exact Or.inr (Nat.eq_of_beq_eq_true h5)
  · cases h1
/-- the words that every method has -/
def pm_G : List Cond := lw_tbl.filter goodWord
def pm_inG (k : Nat) (w : Cond) : Bool := decide (lw_tbl[k]? = some w) && goodWord w
theorem pm_mem {k : Nat} {w : Cond} (h : pm_inG k w = true) : w ∈ pm_G := by
  obtain ⟨h1, h2⟩ := Bool.and_eq_true_iff.mp h
  exact List.mem_filter.mpr ⟨List.mem_of_getElem? (of_decide_eq_true h1), h2⟩
def pm_ws (mi : Nat) : List Cond := Cond.code (pm_nm mi) (pm_by mi) (pm_mx mi) (pm_rt mi) :: pm_G
