/-- the law's loop from here answers 1 -/
def pv (xs : Nat → Int32) (Ln x pc : Nat) (L : pm_L) (S : List Value) (h : pm_H) : Prop := ∃ n, ∀ m, n ≤ m → pl_run xs Ln m x pc L S h = some 1
section PV1
variable {xs : Nat → Int32} {Ln x pc : Nat} {L : pm_L} {S : List Value} {h : pm_H} {S' : List Value} {h' : pm_H} {i : Instr}
theorem pv_scr (hf : pm_fd (pm_code 173) pc = some i) (hs : pl_scr xs Ln i S = some S') (q : pv xs Ln x (pc + pm_ln i) L S' h) : pv xs Ln x pc L S h := by
  obtain ⟨n, q⟩ := q
  refine ⟨n + 1, fun m hm => ?_⟩
  cases m with
  | zero => omega
  | succ m =>
    unfold pl_run
    rw [hf]
    dsimp only
    rw [hs]
    exact q m (by omega)
theorem pv_wr {mi : Nat} {as : List Value} {k : Int32} (hf : pm_fd (pm_code 173) pc = some i) (hn : pl_scr xs Ln i S = none) (hw : pl_wr i S = some (mi, as, S')) (hx : x < 400) (hr : ∃ n, ∀ m, n ≤ m → pw_run pm_swA m 1000 mi as h = some (k, h')) (q : pv xs Ln (x + 1) (pc + 3) L (.int k :: S') h') : pv xs Ln x pc L S h := by
  obtain ⟨n, q⟩ := q
  obtain ⟨n2, hr⟩ := hr
  refine ⟨n + n2 + 1, fun m hm => ?_⟩
  cases m with
  | zero => omega
  | succ m =>
    unfold pl_run
    rw [hf]
    dsimp only
    rw [hn]
    dsimp only
    rw [hw]
    dsimp only
    rw [hr m (by omega)]
    dsimp only
    rw [show Nat.blt x 400 = true from Nat.ble_eq_true_of_le hx]
    exact q m (by omega)
theorem pv_ret (hf : pm_fd (pm_code 173) pc = some .ireturn) (hS : S = [.int 1]) : pv xs Ln x pc L S h := by
  refine ⟨1, fun m hm => ?_⟩
  cases m with
  | zero => omega
  | succ m =>
    unfold pl_run
    rw [hf, hS]
    rfl
theorem pv_pp (hf : pm_fd (pm_code 173) pc = some i) (hn : pl_scr xs Ln i S = none) (hw : pl_wr i S = none) (hi : i ≠ .ireturn) (q : pu pl_stop 1000 173 pc L S h (fun pc' L' S' h' => pv xs Ln x pc' L' S' h')) : pv xs Ln x pc L S h := by
  obtain ⟨n, pc', L', S', h', e1, n2, e2⟩ := q
  refine ⟨n + n2 + 1, fun m hm => ?_⟩
  cases m with
  | zero => omega
  | succ m =>
    unfold pl_run
    rw [hf]
    dsimp only
    rw [hn]
    dsimp only
    rw [hw]
    dsimp only
    have h9 := pu_mono pm_swA pl_stop n m 1000 173 pc L S h _ e1 (by omega)
    split
    · exact absurd rfl hi
    · rw [h9]
      exact e2 m (by omega)
end PV1
