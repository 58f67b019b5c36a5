/-! The claim -/
theorem l_all : pl_All := by
  intro xs Ln hL
  have key : pvq xs Ln 0 20 [some (.inr (.inr 900)), some (.inr (.inr 0)), some (.inr (.inr 39)), some (.inr (.inr 74)), none, none, none] [] (fun _ _ => 0, fun _ _ => 0, fun _ _ => 0, 1003, fun _ => none) := by
    refine pvq_of 2 [] rfl ?_
    show pvq xs Ln 0 23 [some (.inr (.inr 900)), some (.inr (.inr 0)), some (.inr (.inr 39)), some (.inr (.inr 74)), some (.inl (0 : Int)), none, none] [] (fun _ _ => 0, fun _ _ => 0, fun _ _ => 0, 1003, fun _ => none)
    exact l_loop hL 201 0 0 _ _ _ _ _ 0 (by omega) (by omega) (by omega) XI_0 MI_0 (by omega)
  have q := key [(3, .ref 74), (2, .ref 39), (1, .ref 0), (0, .ref 900)] (fun k v h => by
    match k, h with
    | 0, h => cases h; rfl
    | 1, h => cases h; rfl
    | 2, h => cases h; rfl
    | 3, h => cases h; rfl
    | 4, h => cases h
    | 5, h => cases h
    | 6, h => cases h
    | n + 7, h => cases h)
  rw [← zc_0] at q
  obtain ⟨n, hn⟩ := q
  exact ⟨n, hn n (Nat.le_refl n)⟩
theorem i_vc : Claimed_1_1 ∧ Claimed_1_2 := i_vc_open l_all
