/-! The law's loop in whole numbers -/
section LZ1
variable {xs : Nat → Int32} {Ln x pc : Nat} {L : pm_L} {S : List Value} {h : pm_H}
theorem pl_none {i : Instr} (hf : pm_fd (pm_code 173) pc = some i) (hst : pl_stop pc = false) : pl_scr xs Ln i S = none ∧ pl_wr i S = none ∧ i ≠ .ireturn := by
  unfold pl_stop at hst
  rw [hf] at hst
  refine ⟨?_, ?_, ?_⟩
  · unfold pl_scr
    split
    · cases hst
    · cases hst
    · rfl
  · unfold pl_wr
    split
    · cases hst
    · rfl
  · rintro rfl
    cases hst
theorem pv_fd (q : pv xs Ln x pc L S h) : ∃ i, pm_fd (pm_code 173) pc = some i := by
  obtain ⟨n, q⟩ := q
  have q1 := q (n + 1) (by omega)
  unfold pl_run at q1
  cases hf : pm_fd (pm_code 173) pc with
  | none => rw [hf] at q1; cases q1
  | some i => exact ⟨i, rfl⟩
/-- the run goes on to a stop place -/
theorem pv_pu (q : pv xs Ln x pc L S h) : pu pl_stop 1000 173 pc L S h (fun pc' L' S' h' => pv xs Ln x pc' L' S' h') := by
  cases hst : pl_stop pc with
  | true => exact pu_stop hst q
  | false =>
    obtain ⟨i, hf⟩ := pv_fd q
    obtain ⟨e1, e2, e3⟩ := pl_none (xs := xs) (Ln := Ln) (S := S) hf hst
    obtain ⟨n, q⟩ := q
    have hun : ∀ m, n ≤ m + 1 → (match pp_run pm_swA pl_stop m 1000 173 pc L S h with
      | some (pc', L', S', h') => pl_run xs Ln m x pc' L' S' h'
      | none => none) = some 1 := by
      intro m hm
      have q1 := q (m + 1) hm
      unfold pl_run at q1
      rw [hf] at q1
      dsimp only at q1
      rw [e1] at q1
      dsimp only at q1
      rw [e2] at q1
      dsimp only at q1
      split at q1
      · exact absurd rfl e3
      · exact q1
    have h0 := hun n (by omega)
    cases hp : pp_run pm_swA pl_stop n 1000 173 pc L S h with
    | none => rw [hp] at h0; cases h0
    | some r =>
      obtain ⟨pc', L', S', h'⟩ := r
      refine ⟨n, pc', L', S', h', hp, n, fun m hm => ?_⟩
      have h1 := hun m (by omega)
      rw [pu_mono pm_swA pl_stop n m 1000 173 pc L S h _ hp hm] at h1
      exact h1
theorem pv_on (hst : pl_stop pc = false) (hf : ∃ i, pm_fd (pm_code 173) pc = some i) (q : pu pl_stop 1000 173 pc L S h (fun pc' L' S' h' => pv xs Ln x pc' L' S' h')) : pv xs Ln x pc L S h := by
  obtain ⟨i, hf⟩ := hf
  obtain ⟨e1, e2, e3⟩ := pl_none (xs := xs) (Ln := Ln) (S := S) hf hst
  exact pv_pp hf e1 e2 e3 q
end LZ1
theorem pm_step_fd {sw : List (Nat × Nat)} {mi pc : Nat} {L : pm_L} {S : List Value} {h : pm_H} {r : pm_R} (hs : pm_step sw mi pc L S h = some r) : ∃ i, pm_fd (pm_code mi) pc = some i := by
  unfold pm_step at hs
  cases hf : pm_fd (pm_code mi) pc with
  | none => rw [hf] at hs; cases hs
  | some i => exact ⟨i, rfl⟩
theorem zS_pv {xs : Nat → Int32} {Ln x pc : Nat} (hst : pl_stop pc = false) : zS 1000 173 true pc (fun pc L S h => pv xs Ln x pc L S h) (fun _ _ => False) := by
  refine ⟨fun L S h pc' L' S' h' _ hs q => pv_on hst (pm_step_fd hs) (pu_st hst hs (pv_pu q)), fun L S h v e _ _ => absurd e (by decide), fun L S h mj as S' _ hs hp hd q => pv_on hst (pm_step_fd hs) (pu_call (d := 999) hst hs hp (px_imp q (fun v h1 q1 => pv_pu q1))), fun L S h i h' S' _ hs hf hc hd q => pv_on hst ⟨i, hf⟩ (pu_cpy hst hs hf hc hd (pv_pu q))⟩
/-- at the law's place pc, in whole numbers -/
def pvq (xs : Nat → Int32) (Ln x pc : Nat) (M : zM) (S : List zv) (h : zh) : Prop := ∀ L, zlr M L → pv xs Ln x pc L (S.map zV) (zc h)
def lst : List (Nat × List Nat) := [(23, [5, 6]), (26, []), (35, []), (88, []), (94, []), (98, []), (104, []), (109, []), (110, []), (116, []), (117, []), (126, []), (130, []), (136, []), (141, []), (142, []), (148, []), (149, []), (156, []), (157, []), (170, []), (176, []), (182, []), (188, []), (189, []), (200, []), (206, []), (212, []), (219, []), (225, []), (227, []), (238, []), (247, []), (253, []), (255, []), (266, []), (275, []), (281, []), (287, []), (289, []), (300, []), (306, []), (315, []), (321, []), (323, []), (334, []), (343, []), (349, []), (355, []), (369, []), (371, []), (382, []), (388, []), (402, []), (411, []), (417, []), (428, []), (436, [5, 6]), (443, [])]
def lstp (i : Instr) : Bool := match i with
  | .arraylength => true
  | .iaload => true
  | .invokestatic _ => true
  | .ireturn => true
  | _ => false
set_option maxRecDepth 100000 in
theorem lst_all : (pm_code 173).all (fun q => !lstp q.2 || (zfs lst q.1).isSome) = true := by decide +kernel
theorem lst_ok {pc : Nat} (h : zfs lst pc = none) : pl_stop pc = false := by
  cases hst : pl_stop pc with
  | false => rfl
  | true =>
    exfalso
    cases hf : pm_fd (pm_code 173) pc with
    | none => unfold pl_stop at hst; rw [hf] at hst; cases hst
    | some i =>
      have h1 := List.all_eq_true.mp lst_all _ (pm_fd_mem hf)
      rw [h] at h1
      have h2 : lstp i = true := by
        unfold pl_stop at hst
        rw [hf] at hst
        split at hst
        · rename_i e; cases e; rfl
        · rename_i e; cases e; rfl
        · rename_i e; cases e; rfl
        · rename_i e; cases e; rfl
        · cases hst
      rw [h2] at h1
      cases h1
theorem wz_okS {d mi : Nat} {md : Bool} {P : Nat → pm_L → List Value → pm_H → Prop} {R : Option Value → pm_H → Prop} {st : List (Nat × List Nat)} (hS : ∀ pc, zfs st pc = none → zS d mi md pc P R) {hv : List Nat} {Q : Option zv → zh → Prop} {lf : Nat → zM → List zv → zh → Prop} (hlf : ∀ pc M S h, lf pc M S h → ∀ L, zlr M L → P pc L (S.map zV) (zc h)) (hQ : ∀ w h, Q w h → R (w.map zV) (zc h)) :
    ∀ (n pc : Nat) (M : zM) (S : List zv) (h : zh), zS d mi md pc P R → wz st hv d mi md Q lf n pc M S h → ∀ L, zlr M L → P pc L (S.map zV) (zc h) := by
  intro n
  induction n with
  | zero => intro pc M S h _ H; exact hlf pc M S h H
  | succ n ih =>
    intro pc M S h h0 H L hL
    unfold wz at H
    refine zbody_ok h0 hlf hQ (fun pc' M' S' h' q L' hL' => ?_) H L hL
    split at q
    · exact hlf _ _ _ _ q L' (zlr_for _ hL')
    · rename_i e
      exact ih _ _ _ _ (hS _ e) q L' hL'
section LZ2
variable {xs : Nat → Int32} {Ln x pc : Nat} {M : zM} {S : List zv} {h h' : zh}
theorem pvq_of (n : Nat) (hv : List Nat) (h0 : pl_stop pc = false) (H : wz lst hv 1000 173 true (fun _ _ => False) (fun pc M S h => pvq xs Ln x pc M S h) n pc M S h) : pvq xs Ln x pc M S h := fun L hL =>
  wz_okS (fun pc h0 => zS_pv (lst_ok h0)) (fun _ _ _ _ q => q) (fun _ _ q => q) n pc M S h (zS_pv h0) H L hL
/-- an int of the script -/
def sx (xs : Nat → Int32) (j : Int) : Int := (xs j.toNat).toInt
theorem sx_r (xs : Nat → Int32) (j : Int) : -2147483648 ≤ sx xs j ∧ sx xs j < 2147483648 := by
  have h1 := (xs j.toNat).le_toInt
  have h2 := (xs j.toNat).toInt_lt
  unfold sx
  omega
theorem pvq_rd {j : Int} (hf : pm_fd (pm_code 173) pc = some .iaload) (h0 : 0 ≤ j) (h1 : j < Ln) (hL : Ln ≤ 192) (q : pvq xs Ln x (pc + 1) M (.inl (sx xs j) :: S) h) : pvq xs Ln x pc M (.inl j :: .inr (.inr 900) :: S) h := by
  intro L hl
  have q1 := q L hl
  obtain ⟨e3, e2⟩ := zinb (j := j) (n := Ln) (by omega) ⟨h0, h1⟩
  refine pv_scr (i := .iaload) (S' := .int (xs j.toNat) :: S.map zV) hf ?_ ?_
  · show (bif Nat.beq 900 900 && pm_inb (Int32.ofInt j) Ln then some (Value.int (xs (Int32.ofInt j).toNatClampNeg) :: S.map zV) else none) = _
    rw [e3, e2]
    rfl
  · have e4 : zV (.inl (sx xs j)) = .int (xs j.toNat) := by
      show Value.int (Int32.ofInt (xs j.toNat).toInt) = _
      rw [Int32.ofInt_toInt]
    have q2 : pv xs Ln x (pc + 1) L (zV (.inl (sx xs j)) :: S.map zV) (zc h) := q1
    rw [e4] at q2
    exact q2
theorem pvq_len (hf : pm_fd (pm_code 173) pc = some .arraylength) (q : pvq xs Ln x (pc + 1) M (.inl (Ln : Int) :: S) h) : pvq xs Ln x pc M (.inr (.inr 900) :: S) h := by
  intro L hl
  have q1 := q L hl
  refine pv_scr (i := .arraylength) (S' := .int (Int32.ofNat Ln) :: S.map zV) hf rfl ?_
  have e4 : zV (.inl (Ln : Int)) = .int (Int32.ofNat Ln) := by
    show Value.int (Int32.ofInt (Ln : Int)) = _
    rw [Int32.ofInt_eq_ofNat]
  have q2 : pv xs Ln x (pc + 1) L (zV (.inl (Ln : Int)) :: S.map zV) (zc h) := q1
  rw [e4] at q2
  exact q2
theorem pvq_ret (hf : pm_fd (pm_code 173) pc = some .ireturn) : pvq xs Ln x pc M [.inl 1] h := fun L hl => pv_ret hf (by show [Value.int (Int32.ofInt 1)] = _; rfl)
/-- exact operations on longs -/
def zlsh (a b : Int) : Int := (Int64.ofInt a <<< ((Int32.ofInt b).toInt64 &&& 63)).toInt
def zlan (a b : Int) : Int := (Int64.ofInt a &&& Int64.ofInt b).toInt
def zlor (a b : Int) : Int := (Int64.ofInt a ||| Int64.ofInt b).toInt
theorem pvq_st {S' : List zv} (hst : pl_stop pc = false) (hs : ∀ L, pm_step pm_swA 173 pc L (S.map zV) (zc h) = some (.inl (pc + 1, L, S'.map zV, zc h))) (q : pvq xs Ln x (pc + 1) M S' h) : pvq xs Ln x pc M S h := fun L hl => pv_on hst (pm_step_fd (hs L)) (pu_st hst (hs L) (pv_pu (q L hl)))
theorem zV_l (x : Int64) : zV (.inr (.inl x.toInt)) = .long x := by
  show Value.long (Int64.ofInt x.toInt) = _
  rw [Int64.ofInt_toInt]
theorem pvq_lsh {a b : Int} (hf : pm_fd (pm_code 173) pc = some .lshl) (q : pvq xs Ln x (pc + 1) M (.inr (.inl (zlsh a b)) :: S) h) : pvq xs Ln x pc M (.inl b :: .inr (.inl a) :: S) h := by
  refine pvq_st (by unfold pl_stop; rw [hf]) (fun L => ?_) q
  show _ = (some (Sum.inl (pc + 1, L, zV (.inr (.inl (zlsh a b))) :: S.map zV, zc h)) : Option pm_R)
  unfold zlsh
  rw [zV_l]
  unfold pm_step
  rw [hf]
  rfl
theorem pvq_lan {a b : Int} (hf : pm_fd (pm_code 173) pc = some .land) (q : pvq xs Ln x (pc + 1) M (.inr (.inl (zlan a b)) :: S) h) : pvq xs Ln x pc M (.inr (.inl b) :: .inr (.inl a) :: S) h := by
  refine pvq_st (by unfold pl_stop; rw [hf]) (fun L => ?_) q
  show _ = (some (Sum.inl (pc + 1, L, zV (.inr (.inl (zlan a b))) :: S.map zV, zc h)) : Option pm_R)
  unfold zlan
  rw [zV_l]
  unfold pm_step
  rw [hf]
  rfl
theorem pvq_lor {a b : Int} (hf : pm_fd (pm_code 173) pc = some .lor) (q : pvq xs Ln x (pc + 1) M (.inr (.inl (zlor a b)) :: S) h) : pvq xs Ln x pc M (.inr (.inl b) :: .inr (.inl a) :: S) h := by
  refine pvq_st (by unfold pl_stop; rw [hf]) (fun L => ?_) q
  show _ = (some (Sum.inl (pc + 1, L, zV (.inr (.inl (zlor a b))) :: S.map zV, zc h)) : Option pm_R)
  unfold zlor
  rw [zV_l]
  unfold pm_step
  rw [hf]
  rfl
/-- a call of a wrapper -/
theorem pvq_wr {i : Instr} {S0 S' : List zv} {mi : Nat} {as : List Value} {k : Int32} (hf : pm_fd (pm_code 173) pc = some i) (hn : pl_scr xs Ln i (S0.map zV) = none) (hw : pl_wr i (S0.map zV) = some (mi, as, S'.map zV)) (hx : x < 400) (hr : ∃ n, ∀ m, n ≤ m → pw_run pm_swA m 1000 mi as (zc h) = some (k, zc h')) (q : pvq xs Ln (x + 1) (pc + 3) M (.inl k.toInt :: S') h') : pvq xs Ln x pc M S0 h := by
  intro L hl
  refine pv_wr hf hn hw hx hr ?_
  have q1 := q L hl
  have e4 : zV (.inl k.toInt) = .int k := by
    show Value.int (Int32.ofInt k.toInt) = _
    rw [Int32.ofInt_toInt]
  have q2 : pv xs Ln (x + 1) (pc + 3) L (zV (.inl k.toInt) :: S'.map zV) (zc h') := q1
  rw [e4] at q2
  exact q2
/-- a call of a method, by its run -/
theorem pvq_call {i : Instr} {S0 S' : List zv} {mj : Nat} {as : List Value} (hst : pl_stop pc = false) (hs : ∀ L, pm_step pm_swA 173 pc L (S0.map zV) (zc h) = some (.inr (.inr (mj, as, S'.map zV)))) (hp : pm_prim mj as = none) (q : px 999 mj 0 (lv_args 0 as) [] (zc h) (fun v h1 => ∃ (w : Int) (hz : zh), v = some (.int (Int32.ofInt w)) ∧ h1 = zc hz ∧ pvq xs Ln x (pc + 3) M (.inl w :: S') hz)) : pvq xs Ln x pc M S0 h := by
  intro L hl
  refine pv_on hst (pm_step_fd (hs L)) (pu_call (d := 999) hst (hs L) hp (px_imp q ?_))
  rintro v h1 ⟨w, hz, rfl, rfl, q1⟩
  exact pv_pu (q1 L hl)
end LZ2
