section P1C
variable {xs : Nat → Int32}
set_option maxRecDepth 100000 in
set_option maxHeartbeats 4000000 in
/-- check -/
theorem q1_c1 : pu pl_stop 1000 174 39 q1_4 [.int 1] q1_h (fun pc' L' S' h' => pv xs 4 0 pc' L' S' h') := by
  refine pu_seg 2 (pc' := 158) (L' := q1_4) (S' := [.ref 0]) (h' := q1_h) (fun _ => rfl) ?_
  refine pu_call (d := 999) (mj := 154) (as := [.ref 0]) (S' := []) rfl rfl rfl (q1_154 (fun h1 e1 e2 => ?_))
  have e3 : h1 = (va_up h1.1 39 (fun _ => 0), h1.2.1, va_up h1.2.2 39 (pg_f pg_lM 39)) := by
    rw [← e1, ← e2, va_up_id, va_up_id]
  rw [e3]
  refine pu_seg 1 (pc' := 162) (L' := q1_4) (S' := [.ref 39, .int 0]) (h' := (va_up h1.1 39 (fun _ => 0), h1.2.1, va_up h1.2.2 39 (pg_f pg_lM 39))) (fun _ => rfl) ?_
  refine pu_call (d := 999) (mj := 48) (as := [.ref 39]) (S' := [.int 0]) rfl rfl rfl (q1_48 (fun h2 => ?_))
  exact pu_go 5 (pc' := 26) (L' := (4, .int 4) :: q1_0) (S' := [.ref 900, .int 4]) (h' := h2) (fun _ => rfl) rfl (q1_e _)
set_option maxRecDepth 100000 in
set_option maxHeartbeats 4000000 in
/-- put -/
theorem q1_c2 : pu pl_stop 1000 174 39 q1_4 [.int 2] q1_h (fun pc' L' S' h' => pv xs 4 0 pc' L' S' h') := by
  refine pu_go 6 (pc' := 176) (L' := q1_4) (S' := [.int 1, .ref 900, .ref 0]) (h' := q1_h) (fun _ => rfl) rfl ?_
  refine pv_scr (i := .iaload) (S' := [.int (xs 1), .ref 0]) rfl rfl ?_
  refine pv_go 4 (pc' := 182) (L' := q1_4) (S' := [.int 2, .ref 900, .int (xs 1), .ref 0]) (h' := q1_h) rfl rfl rfl rfl (fun _ => rfl) rfl ?_
  refine pv_scr (i := .iaload) (S' := [.int (xs 2), .int (xs 1), .ref 0]) rfl rfl ?_
  refine pv_go 4 (pc' := 188) (L' := q1_4) (S' := [.int 3, .ref 900, .int (xs 2), .int (xs 1), .ref 0]) (h' := q1_h) rfl rfl rfl rfl (fun _ => rfl) rfl ?_
  refine pv_scr (i := .iaload) (S' := [.int (xs 3), .int (xs 2), .int (xs 1), .ref 0]) rfl rfl ?_
  refine pv_wr (i := .invokestatic 53) (mi := 175) (as := [.ref 0, .int (xs 1), .int (xs 2), .int (xs 3)]) (k := 1) (S' := []) (h' := q1_h) rfl rfl rfl (by decide) (pw_thr (k := 1) ⟨20, _, _, _, _, rfl, rfl, rfl, rfl, rfl⟩ rfl rfl rfl (pt_of ⟨50, _, _, _, _, rfl, rfl⟩) rfl rfl) ?_
  refine pv_go 6 (pc' := 200) (L' := (5, .int 1) :: q1_4) (S' := [.int 1, .ref 900, .ref 39]) (h' := q1_h) rfl rfl rfl rfl (fun _ => rfl) rfl ?_
  refine pv_scr (i := .iaload) (S' := [.int (xs 1), .ref 39]) rfl rfl ?_
  refine pv_go 4 (pc' := 206) (L' := (5, .int 1) :: q1_4) (S' := [.int 2, .ref 900, .int (xs 1), .ref 39]) (h' := q1_h) rfl rfl rfl rfl (fun _ => rfl) rfl ?_
  refine pv_scr (i := .iaload) (S' := [.int (xs 2), .int (xs 1), .ref 39]) rfl rfl ?_
  refine pv_go 4 (pc' := 212) (L' := (5, .int 1) :: q1_4) (S' := [.int 3, .ref 900, .int (xs 2), .int (xs 1), .ref 39]) (h' := q1_h) rfl rfl rfl rfl (fun _ => rfl) rfl ?_
  refine pv_scr (i := .iaload) (S' := [.int (xs 3), .int (xs 2), .int (xs 1), .ref 39]) rfl rfl ?_
  exact pv_pu (i := .invokevirtual 58) rfl rfl rfl rfl ⟨300, 26, _, [.ref 900, .int 4], _, rfl, q1_e _⟩
set_option maxRecDepth 100000 in
set_option maxHeartbeats 4000000 in
/-- the model's run, without a program -/
theorem q1_m55 {d : Nat} {f : Int32} {Q : Option Value → pm_H → Prop} (q : Q (some (.int 0)) (pg (va_up (fun _ _ => 0) 39 (va_up (fun _ => 0) 0 1)) (fun _ _ => 0) (some 1003) (fun _ => none))) : px (d + 1) 55 0 (lv_args 0 [.ref 39, .int f]) [] q1_h Q := by
  have e : ∀ b : Int32, b = 0 ∨ b = 1 → px (d + 1) 55 29 [(0, .ref 39), (1, .int f)] [.int b, .int 1, .ref 39] q1_h Q := fun b hb => by
    rcases hb with rfl | rfl
    · exact ⟨40, some (.int 0), _, rfl, q⟩
    · exact ⟨40, some (.int 0), _, rfl, q⟩
  refine px_seg 8 (pc' := bif pm_c0 .lt f then 24 else 17) (L' := [(0, .ref 39), (1, .int f)]) (S' := [.int 1, .ref 39]) (h' := q1_h) (fun _ => rfl) ?_
  have e1 := px_seg (Q := Q) 2 (pc := 24) (d := d + 1) (mi := 55) (L := [(0, .ref 39), (1, .int f)]) (S := [.int 1, .ref 39]) (h := q1_h) (pc' := 29) (L' := [(0, .ref 39), (1, .int f)]) (S' := [.int 1, .int 1, .ref 39]) (h' := q1_h) (fun _ => rfl) (e 1 (Or.inr rfl))
  cases pm_c0 .lt f with
  | true => exact e1
  | false =>
    refine px_seg 3 (pc' := bif pm_c2 .le f (nI 20000) then 28 else 24) (L' := [(0, .ref 39), (1, .int f)]) (S' := [.int 1, .ref 39]) (h' := q1_h) (fun _ => rfl) ?_
    cases pm_c2 .le f (nI 20000) with
    | false => exact e1
    | true => exact px_seg 1 (pc' := 29) (L' := [(0, .ref 39), (1, .int f)]) (S' := [.int 0, .int 1, .ref 39]) (h' := q1_h) (fun _ => rfl) (e 0 (Or.inl rfl))
set_option maxRecDepth 100000 in
set_option maxHeartbeats 4000000 in
/-- run -/
theorem q1_c3 : pu pl_stop 1000 174 39 q1_4 [.int 3] q1_h (fun pc' L' S' h' => pv xs 4 0 pc' L' S' h') := by
  refine pu_go 6 (pc' := 236) (L' := q1_4) (S' := [.int 1, .ref 900, .ref 0]) (h' := q1_h) (fun _ => rfl) rfl ?_
  refine pv_scr (i := .iaload) (S' := [.int (xs 1), .ref 0]) rfl rfl ?_
  refine pv_go 1 (pc' := 238) (L' := q1_4) (S' := [.ref 74, .int (xs 1), .ref 0]) (h' := q1_h) rfl rfl rfl rfl (fun _ => rfl) rfl ?_
  refine pv_wr (i := .invokestatic 62) (mi := 176) (as := [.ref 0, .int (xs 1), .ref 74]) (k := 1) (S' := []) (h' := q1_h) rfl rfl rfl (by decide) (pw_thr (k := 1) ⟨20, _, _, _, _, rfl, rfl, rfl, rfl, rfl⟩ rfl rfl rfl (pt_of ⟨50, _, _, _, _, rfl, rfl⟩) rfl rfl) ?_
  refine pv_go 6 (pc' := 249) (L' := (5, .int 1) :: q1_4) (S' := [.int 1, .ref 900, .ref 39]) (h' := q1_h) rfl rfl rfl rfl (fun _ => rfl) rfl ?_
  refine pv_scr (i := .iaload) (S' := [.int (xs 1), .ref 39]) rfl rfl ?_
  refine pv_pu (i := .invokevirtual 65) rfl rfl rfl rfl ?_
  refine pu_call (d := 999) (mj := 55) (as := [.ref 39, .int (xs 1)]) (S' := []) rfl rfl rfl (q1_m55 (d := 998) ?_)
  exact ⟨60, 26, _, [.ref 900, .int 4], _, rfl, q1_e _⟩
set_option maxRecDepth 100000 in
set_option maxHeartbeats 4000000 in
/-- twin -/
theorem q1_c4 : pu pl_stop 1000 174 39 q1_4 [.int 4] q1_h (fun pc' L' S' h' => pv xs 4 0 pc' L' S' h') := by
  refine pu_go 6 (pc' := 292) (L' := q1_4) (S' := [.int 1, .ref 900, .ref 0]) (h' := q1_h) (fun _ => rfl) rfl ?_
  refine pv_scr (i := .iaload) (S' := [.int (xs 1), .ref 0]) rfl rfl ?_
  refine pv_go 1 (pc' := 294) (L' := q1_4) (S' := [.ref 74, .int (xs 1), .ref 0]) (h' := q1_h) rfl rfl rfl rfl (fun _ => rfl) rfl ?_
  refine pv_wr (i := .invokestatic 66) (mi := 177) (as := [.ref 0, .int (xs 1), .ref 74]) (k := 1) (S' := []) (h' := q1_h) rfl rfl rfl (by decide) (pw_thr (k := 1) ⟨20, _, _, _, _, rfl, rfl, rfl, rfl, rfl⟩ rfl rfl rfl (pt_of ⟨50, _, _, _, _, rfl, rfl⟩) rfl rfl) ?_
  refine pv_go 6 (pc' := 305) (L' := (5, .int 1) :: q1_4) (S' := [.int 1, .ref 900, .ref 39]) (h' := q1_h) rfl rfl rfl rfl (fun _ => rfl) rfl ?_
  refine pv_scr (i := .iaload) (S' := [.int (xs 1), .ref 39]) rfl rfl ?_
  exact pv_pu (i := .invokevirtual 68) rfl rfl rfl rfl ⟨100, 26, _, [.ref 900, .int 4], _, rfl, q1_e _⟩
set_option maxRecDepth 100000 in
set_option maxHeartbeats 4000000 in
/-- value -/
theorem q1_c5 : pu pl_stop 1000 174 39 q1_4 [.int 5] q1_h (fun pc' L' S' h' => pv xs 4 0 pc' L' S' h') := by
  refine pu_go 6 (pc' := 348) (L' := q1_4) (S' := [.int 1, .ref 900, .ref 0]) (h' := q1_h) (fun _ => rfl) rfl ?_
  refine pv_scr (i := .iaload) (S' := [.int (xs 1), .ref 0]) rfl rfl ?_
  refine pv_go 4 (pc' := 354) (L' := q1_4) (S' := [.int 2, .ref 900, .int (xs 1), .ref 0]) (h' := q1_h) rfl rfl rfl rfl (fun _ => rfl) rfl ?_
  refine pv_scr (i := .iaload) (S' := [.int (xs 2), .int (xs 1), .ref 0]) rfl rfl ?_
  refine pv_go 1 (pc' := 356) (L' := q1_4) (S' := [.ref 74, .int (xs 2), .int (xs 1), .ref 0]) (h' := q1_h) rfl rfl rfl rfl (fun _ => rfl) rfl ?_
  refine pv_wr (i := .invokestatic 69) (mi := 178) (as := [.ref 0, .int (xs 1), .int (xs 2), .ref 74]) (k := 1) (S' := []) (h' := q1_h) rfl rfl rfl (by decide) (pw_thr (k := 1) ⟨20, _, _, _, _, rfl, rfl, rfl, rfl, rfl⟩ rfl rfl rfl (pt_of ⟨50, _, _, _, _, rfl, rfl⟩) rfl rfl) ?_
  refine pv_go 6 (pc' := 367) (L' := (5, .int 1) :: q1_4) (S' := [.int 1, .ref 900, .ref 39]) (h' := q1_h) rfl rfl rfl rfl (fun _ => rfl) rfl ?_
  refine pv_scr (i := .iaload) (S' := [.int (xs 1), .ref 39]) rfl rfl ?_
  refine pv_go 4 (pc' := 373) (L' := (5, .int 1) :: q1_4) (S' := [.int 2, .ref 900, .int (xs 1), .ref 39]) (h' := q1_h) rfl rfl rfl rfl (fun _ => rfl) rfl ?_
  refine pv_scr (i := .iaload) (S' := [.int (xs 2), .int (xs 1), .ref 39]) rfl rfl ?_
  exact pv_pu (i := .invokevirtual 72) rfl rfl rfl rfl ⟨100, 26, _, [.ref 900, .int 4], _, rfl, q1_e _⟩
set_option maxRecDepth 100000 in
set_option maxHeartbeats 4000000 in
/-- note -/
theorem q1_c6 : pu pl_stop 1000 174 39 q1_4 [.int 6] q1_h (fun pc' L' S' h' => pv xs 4 0 pc' L' S' h') := by
  refine pu_go 6 (pc' := 416) (L' := q1_4) (S' := [.int 1, .ref 900, .ref 0]) (h' := q1_h) (fun _ => rfl) rfl ?_
  refine pv_scr (i := .iaload) (S' := [.int (xs 1), .ref 0]) rfl rfl ?_
  refine pv_go 1 (pc' := 418) (L' := q1_4) (S' := [.ref 74, .int (xs 1), .ref 0]) (h' := q1_h) rfl rfl rfl rfl (fun _ => rfl) rfl ?_
  refine pv_wr (i := .invokestatic 73) (mi := 179) (as := [.ref 0, .int (xs 1), .ref 74]) (k := 1) (S' := []) (h' := q1_h) rfl rfl rfl (by decide) (pw_thr (k := 1) ⟨20, _, _, _, _, rfl, rfl, rfl, rfl, rfl⟩ rfl rfl rfl (pt_of ⟨50, _, _, _, _, rfl, rfl⟩) rfl rfl) ?_
  refine pv_go 6 (pc' := 429) (L' := (5, .int 1) :: q1_4) (S' := [.int 1, .ref 900, .ref 39]) (h' := q1_h) rfl rfl rfl rfl (fun _ => rfl) rfl ?_
  refine pv_scr (i := .iaload) (S' := [.int (xs 1), .ref 39]) rfl rfl ?_
  exact pv_pu (i := .invokevirtual 75) rfl rfl rfl rfl ⟨100, 26, _, [.ref 900, .int 4], _, rfl, q1_e _⟩
end P1C
