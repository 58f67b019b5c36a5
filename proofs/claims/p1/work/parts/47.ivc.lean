set_option maxRecDepth 100000 in
set_option maxHeartbeats 4000000 in
theorem q1_all : pl_All := by
  intro xs Ln hLn
  have key : pv xs Ln 0 20 q1_0 [] pm_hA := by
    rw [pg_A]
    refine pv_go 4 (pc' := 26) (L' := q1_4) (S' := [.ref 900, .int 0]) (h' := q1_h) rfl rfl rfl rfl (fun _ => rfl) rfl ?_
    refine pv_scr (i := .arraylength) (S' := [.int (Int32.ofNat Ln), .int 0]) rfl rfl ?_
    have e : ∀ n, n < 4 → pv xs n 0 27 q1_4 [.int (Int32.ofNat n), .int 0] q1_h := fun n hn => by
      match n, hn with
      | 0, _ => exact pv_go 4 (pc' := 594) (L' := q1_4) (S' := [.int 1]) (h' := q1_h) rfl rfl rfl rfl (fun _ => rfl) rfl (pv_ret rfl rfl)
      | 1, _ => exact pv_go 4 (pc' := 594) (L' := q1_4) (S' := [.int 1]) (h' := q1_h) rfl rfl rfl rfl (fun _ => rfl) rfl (pv_ret rfl rfl)
      | 2, _ => exact pv_go 4 (pc' := 594) (L' := q1_4) (S' := [.int 1]) (h' := q1_h) rfl rfl rfl rfl (fun _ => rfl) rfl (pv_ret rfl rfl)
      | 3, _ => exact pv_go 4 (pc' := 594) (L' := q1_4) (S' := [.int 1]) (h' := q1_h) rfl rfl rfl rfl (fun _ => rfl) rfl (pv_ret rfl rfl)
      | n + 4, hn => exact absurd hn (by omega)
    rcases Nat.lt_or_ge Ln 4 with h4 | h4
    · exact e Ln h4
    · have h5 : Ln = 4 := by omega
      subst h5
      refine pv_go 5 (pc' := 35) (L' := q1_4) (S' := [.int 0, .ref 900]) (h' := q1_h) rfl rfl rfl rfl (fun _ => rfl) rfl ?_
      refine pv_scr (i := .iaload) (S' := [.int (xs 0)]) rfl rfl ?_
      refine pv_pu (i := .bipush 15) rfl rfl rfl rfl ?_
      exact pu_seg 2 (pc' := 39) (L' := q1_4) (S' := [.int (xs 0 &&& (Int8.ofInt 15).toInt32)]) (h' := q1_h) (fun _ => rfl) q1_call
  obtain ⟨n, hn⟩ := key
  exact ⟨n, hn n (Nat.le_refl n)⟩
set_option maxRecDepth 100000 in
set_option maxHeartbeats 4000000 in
theorem i_vc : Claimed_1_1 ∧ Claimed_1_2 := i_vc_open q1_all
