/-! The steps that read and write the heap -/
def pm_f4 : List (Nat × Nat × Nat × Nat) → Nat → Option (Nat × Nat)
  | [], _ => none
  | q :: l, k => bif Nat.beq q.1 k then some (q.2.1, q.2.2.1) else pm_f4 l k
def pm_f3 : List (Nat × Nat × Nat) → Nat → Option Nat
  | [], _ => none
  | q :: l, k => bif Nat.beq q.1 k then some q.2.1 else pm_f3 l k
def pm_fl : List (Nat × Int64 × Nat) → Nat → Option Int64
  | [], _ => none
  | q :: l, k => bif Nat.beq q.1 k then some q.2.1 else pm_fl l k
theorem pm_f4_mem : ∀ {l : List (Nat × Nat × Nat × Nat)} {k a b : Nat}, pm_f4 l k = some (a, b) → ∃ p, (k, a, b, p) ∈ l := by
  intro l
  induction l with
  | nil => intro k a b h; cases h
  | cons q l ih =>
    intro k a b h
    unfold pm_f4 at h
    cases hb : Nat.beq q.1 k with
    | true =>
      rw [hb] at h
      have h1 : q.1 = k := Nat.eq_of_beq_eq_true hb
      have h2 : (q.2.1, q.2.2.1) = (a, b) := Option.some.inj h
      cases h2
      subst h1
      exact ⟨q.2.2.2, List.mem_cons_self⟩
    | false =>
      rw [hb] at h
      obtain ⟨p, hp⟩ := ih h
      exact ⟨p, List.mem_cons_of_mem _ hp⟩
theorem pm_f3_mem : ∀ {l : List (Nat × Nat × Nat)} {k a : Nat}, pm_f3 l k = some a → ∃ p, (k, a, p) ∈ l := by
  intro l
  induction l with
  | nil => intro k a h; cases h
  | cons q l ih =>
    intro k a h
    unfold pm_f3 at h
    cases hb : Nat.beq q.1 k with
    | true =>
      rw [hb] at h
      have h1 : q.1 = k := Nat.eq_of_beq_eq_true hb
      have h2 : q.2.1 = a := Option.some.inj h
      subst h1; subst h2
      exact ⟨q.2.2, List.mem_cons_self⟩
    | false =>
      rw [hb] at h
      obtain ⟨p, hp⟩ := ih h
      exact ⟨p, List.mem_cons_of_mem _ hp⟩
theorem pm_fl_mem : ∀ {l : List (Nat × Int64 × Nat)} {k : Nat} {a : Int64}, pm_fl l k = some a → ∃ p, (k, a, p) ∈ l := by
  intro l
  induction l with
  | nil => intro k a h; cases h
  | cons q l ih =>
    intro k a h
    unfold pm_fl at h
    cases hb : Nat.beq q.1 k with
    | true =>
      rw [hb] at h
      have h1 : q.1 = k := Nat.eq_of_beq_eq_true hb
      have h2 : q.2.1 = a := Option.some.inj h
      subst h1; subst h2
      exact ⟨q.2.2, List.mem_cons_self⟩
    | false =>
      rw [hb] at h
      obtain ⟨p, hp⟩ := ih h
      exact ⟨p, List.mem_cons_of_mem _ hp⟩
def pm_gf (ow idx : Nat) : Option (Nat × Nat) := pm_f4 (pm_gfl.getD ow []) idx
def pm_gs (ow idx : Nat) : Option Nat := pm_f3 (pm_gsl.getD ow []) idx
def pm_kf (ow idx : Nat) : Option Nat := pm_f3 (pm_kfl.getD ow []) idx
def pm_kl (ow idx : Nat) : Option Int64 := pm_fl (pm_kll.getD ow []) idx
def pm_iv (ow idx : Nat) : Option Nat := pm_f3 (pm_ivl.getD ow []) idx
set_option maxRecDepth 100000 in
theorem pm_gf_all : (List.range 13).all (fun o => (pm_gfl.getD o []).all (fun e => Nat.blt e.2.1 7 && (Nat.blt e.2.2.1 (pm_clN e.2.1).2.2 && pm_inG e.2.2.2 (Cond.fieldLink (pm_on o) e.1 ((pm_clN e.2.1).2.1 e.2.2.1).1 ((pm_clN e.2.1).2.1 e.2.2.1).2.1 ((pm_clN e.2.1).2.1 e.2.2.1).2.2.1)))) = true := by decide +kernel
set_option maxRecDepth 100000 in
theorem pm_gs_all : (List.range 13).all (fun o => (pm_gsl.getD o []).all (fun e => Nat.blt e.2.1 pm_kst.length && pm_inG e.2.2 (Cond.fieldLink (pm_on o) e.1 (pm_kst.getD e.2.1 ("", "", "", 0)).1 (pm_kst.getD e.2.1 ("", "", "", 0)).2.1 (pm_kst.getD e.2.1 ("", "", "", 0)).2.2.1))) = true := by decide +kernel
set_option maxRecDepth 100000 in
theorem pm_kf_all : (List.range 13).all (fun o => (pm_kfl.getD o []).all (fun e => pm_inG e.2.2 (Cond.fieldLink (pm_on o) e.1 (pm_kfn.getD e.2.1 ("", "", "")).1 (pm_kfn.getD e.2.1 ("", "", "")).2.1 (pm_kfn.getD e.2.1 ("", "", "")).2.2))) = true := by decide +kernel
set_option maxRecDepth 100000 in
theorem pm_kl_all : (List.range 13).all (fun o => (pm_kll.getD o []).all (fun e => pm_inG e.2.2 (Cond.constantLong (pm_on o) e.1 e.2.1))) = true := by decide +kernel
set_option maxRecDepth 100000 in
theorem pm_uw_all : (List.range 7).all (fun ci => (List.range (pm_clN ci).2.2).all (fun k => pm_inG ((pm_uwp.getD ci []).getD k 0) (u_lay (pm_clN ci).1 (pm_clN ci).2.1 k))) = true := by decide +kernel
theorem pm_own12 {α : Type} {l : List (List α)} {o : Nat} {a : α} (hl : l.length = 13) (h : a ∈ l.getD o []) : o < 13 := by
  rcases Nat.lt_or_ge o 13 with h1 | h1
  · exact h1
  · rw [List.getD_eq_getElem?_getD, List.getElem?_eq_none (by omega)] at h
    cases h
theorem pm_gf_ok {o idx ci k : Nat} (h : pm_gf o idx = some (ci, k)) : ci < 7 ∧ k < (pm_clN ci).2.2 ∧ Cond.fieldLink (pm_on o) idx ((pm_clN ci).2.1 k).1 ((pm_clN ci).2.1 k).2.1 ((pm_clN ci).2.1 k).2.2.1 ∈ pm_G := by
  obtain ⟨p, hp⟩ := pm_f4_mem h
  have h1 := List.all_eq_true.mp (List.all_eq_true.mp pm_gf_all o (List.mem_range.mpr (pm_own12 (by rfl) hp))) _ hp
  obtain ⟨h2, h3⟩ := Bool.and_eq_true_iff.mp h1
  obtain ⟨h4, h5⟩ := Bool.and_eq_true_iff.mp h3
  exact ⟨pm_blt h2, pm_blt h4, pm_mem h5⟩
theorem pm_kl_ok {o idx : Nat} {v : Int64} (h : pm_kl o idx = some v) : Cond.constantLong (pm_on o) idx v ∈ pm_G := by
  obtain ⟨p, hp⟩ := pm_fl_mem h
  exact pm_mem (List.all_eq_true.mp (List.all_eq_true.mp pm_kl_all o (List.mem_range.mpr (pm_own12 (by rfl) hp))) _ hp)
theorem pm_gs_ok {o idx j : Nat} (h : pm_gs o idx = some j) : j < pm_kst.length ∧ Cond.fieldLink (pm_on o) idx (pm_kst.getD j ("", "", "", 0)).1 (pm_kst.getD j ("", "", "", 0)).2.1 (pm_kst.getD j ("", "", "", 0)).2.2.1 ∈ pm_G := by
  obtain ⟨p, hp⟩ := pm_f3_mem h
  have h1 := List.all_eq_true.mp (List.all_eq_true.mp pm_gs_all o (List.mem_range.mpr (pm_own12 (by rfl) hp))) _ hp
  obtain ⟨h2, h3⟩ := Bool.and_eq_true_iff.mp h1
  exact ⟨pm_blt h2, pm_mem h3⟩
theorem pm_kf_ok {o idx j : Nat} (h : pm_kf o idx = some j) : Cond.fieldLink (pm_on o) idx (pm_kfn.getD j ("", "", "")).1 (pm_kfn.getD j ("", "", "")).2.1 (pm_kfn.getD j ("", "", "")).2.2 ∈ pm_G := by
  obtain ⟨p, hp⟩ := pm_f3_mem h
  exact pm_mem (List.all_eq_true.mp (List.all_eq_true.mp pm_kf_all o (List.mem_range.mpr (pm_own12 (by rfl) hp))) _ hp)
theorem pm_uw {ci : Nat} (h : ci < 7) : ∀ w ∈ u_ws (pm_clN ci).1 (pm_clN ci).2.1 (pm_clN ci).2.2, w ∈ pm_G := by
  intro w hw
  unfold u_ws at hw
  obtain ⟨k, hk, rfl⟩ := List.mem_map.mp hw
  exact pm_mem (List.all_eq_true.mp (List.all_eq_true.mp pm_uw_all ci (List.mem_range.mpr h)) k hk)
