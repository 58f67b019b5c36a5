section P1D
variable {xs : Nat → Int32}
set_option maxRecDepth 100000 in
set_option maxHeartbeats 4000000 in
theorem q1_ge {k : Int32} (h : pm_c0 .lt k = false) : pm_c2 .ge k 0 = true := decide_eq_true (Int32.not_lt.mp (of_decide_eq_false h))
set_option maxRecDepth 100000 in
set_option maxHeartbeats 4000000 in
/-- has(k) of an empty list of names -/
theorem q1_64 {d a : Nat} {k : Int32} {Q : Option Value → pm_H → Prop} (ha : a = 4 ∨ a = 10) (q : Q (some (.int 0)) q1_h) : px d 64 0 (lv_args 0 [.ref a, .int k]) [] q1_h Q := by
  have e : px d 64 16 [(0, .ref a), (1, .int k)] [] q1_h Q := px_seg 1 (pc' := 17) (L' := [(0, .ref a), (1, .int k)]) (S' := [.int 0]) (h' := q1_h) (fun _ => rfl) (px_rb rfl rfl (Or.inl rfl) q)
  refine px_seg 2 (pc' := bif pm_c0 .lt k then 16 else 4) (L' := [(0, .ref a), (1, .int k)]) (S' := []) (h' := q1_h) (fun _ => rfl) ?_
  cases hk : pm_c0 .lt k with
  | true => exact e
  | false =>
    refine px_seg 4 (pc' := bif pm_c2 .ge k 0 then 16 else 12) (L' := [(0, .ref a), (1, .int k)]) (S' := []) (h' := q1_h) (fun _ => by rcases ha with rfl | rfl <;> rfl) ?_
    rw [q1_ge hk]
    exact e
set_option maxRecDepth 100000 in
set_option maxHeartbeats 4000000 in
theorem q1_70 {d a : Nat} {k i : Int32} {Q : Option Value → pm_H → Prop} (ha : a = 4 ∨ a = 10) (q : Q (some (.int 0)) q1_h) : px (d + 1) 70 0 (lv_args 0 [.ref a, .int k, .int i]) [] q1_h Q := by
  refine px_seg 2 (pc' := 2) (L' := [(0, .ref a), (1, .int k), (2, .int i)]) (S' := [.int k, .ref a]) (h' := q1_h) (fun _ => rfl) ?_
  refine px_call (mj := 64) (as := [.ref a, .int k]) (S' := []) (by rcases ha with rfl | rfl <;> rfl) rfl (q1_64 ha ?_)
  exact px_seg 2 (pc' := 27) (L' := [(0, .ref a), (1, .int k), (2, .int i)]) (S' := [.int 0]) (h' := q1_h) (fun _ => rfl) (px_rb rfl rfl (Or.inl rfl) q)
set_option maxRecDepth 100000 in
set_option maxHeartbeats 4000000 in
theorem q1_160 {k i f : Int32} (hf : f = 0 ∨ f = 1) : ∃ n, ∀ m, n ≤ m → pt_run pm_swA m 1000 160 [.ref 0, .int k, .int f, .int i] q1_h = some (.inr (1, q1_h)) := by
  refine pt_of ?_
  rcases hf with rfl | rfl
  · refine pu_seg 9 (pc' := 27) (L' := [(4, .ref 4), (0, .ref 0), (1, .int k), (2, .int 0), (3, .int i)]) (S' := [.int i, .int k, .ref 4]) (h' := q1_h) (fun _ => rfl) ?_
    refine pu_call (d := 999) (mj := 70) (as := [.ref 4, .int k, .int i]) (S' := []) rfl rfl rfl (q1_70 (d := 998) (Or.inl rfl) ?_)
    exact pu_go 1 (pc' := 33) (L' := [(4, .ref 4), (0, .ref 0), (1, .int k), (2, .int 0), (3, .int i)]) (S' := []) (h' := q1_h) (fun _ => rfl) rfl rfl
  · refine pu_seg 10 (pc' := 27) (L' := [(4, .ref 10), (0, .ref 0), (1, .int k), (2, .int 1), (3, .int i)]) (S' := [.int i, .int k, .ref 10]) (h' := q1_h) (fun _ => rfl) ?_
    refine pu_call (d := 999) (mj := 70) (as := [.ref 10, .int k, .int i]) (S' := []) rfl rfl rfl (q1_70 (d := 998) (Or.inr rfl) ?_)
    exact pu_go 1 (pc' := 33) (L' := [(4, .ref 10), (0, .ref 0), (1, .int k), (2, .int 1), (3, .int i)]) (S' := []) (h' := q1_h) (fun _ => rfl) rfl rfl
set_option maxRecDepth 100000 in
set_option maxHeartbeats 4000000 in
/-- the model's letter -/
theorem q1_m60 {d : Nat} {k i f : Int32} {Q : Option Value → pm_H → Prop} (hf : f = 0 ∨ f = 1) (q : Q (some (.int 0)) (pg (va_up (fun _ _ => 0) 39 (va_up (fun _ => 0) 0 1)) (fun _ _ => 0) (some 1003) (fun _ => none))) : px (d + 1) 60 0 (lv_args 0 [.ref 39, .int k, .int f, .int i]) [] q1_h Q := by
  have e : px (d + 1) 60 31 [(4, .int 0), (0, .ref 39), (1, .int k), (2, .int f), (3, .int i)] [] q1_h Q := ⟨60, some (.int 0), _, rfl, q⟩
  have e2 : px (d + 1) 60 (bif pm_c0 .lt k then 31 else 21) [(4, .int 0), (0, .ref 39), (1, .int k), (2, .int f), (3, .int i)] [] q1_h Q := by
    cases hk : pm_c0 .lt k with
    | true => exact e
    | false =>
      refine px_seg 3 (pc' := bif pm_c2 .ge k 0 then 31 else 27) (L' := [(4, .int 0), (0, .ref 39), (1, .int k), (2, .int f), (3, .int i)]) (S' := []) (h' := q1_h) (fun _ => rfl) ?_
      rw [q1_ge hk]
      exact e
  rcases hf with rfl | rfl
  · exact px_seg 7 (pc' := bif pm_c0 .lt k then 31 else 21) (L' := [(4, .int 0), (0, .ref 39), (1, .int k), (2, .int 0), (3, .int i)]) (S' := []) (h' := q1_h) (fun _ => rfl) e2
  · exact px_seg 8 (pc' := bif pm_c0 .lt k then 31 else 21) (L' := [(4, .int 0), (0, .ref 39), (1, .int k), (2, .int 1), (3, .int i)]) (S' := []) (h' := q1_h) (fun _ => rfl) e2
set_option maxRecDepth 100000 in
set_option maxHeartbeats 4000000 in
/-- letter -/
theorem q1_c7b {f : Int32} (hf : f = 0 ∨ f = 1) (hx : pm_c0 .eq (xs 2) = decide (f = 0)) : pv xs 4 0 492 q1_4 [.int 3, .ref 900, .int f, .int (xs 1), .ref 0] q1_h := by
  refine pv_scr (i := .iaload) (S' := [.int (xs 3), .int f, .int (xs 1), .ref 0]) rfl rfl ?_
  refine pv_go 1 (pc' := 494) (L' := q1_4) (S' := [.ref 74, .int (xs 3), .int f, .int (xs 1), .ref 0]) (h' := q1_h) rfl rfl rfl rfl (fun _ => rfl) rfl ?_
  refine pv_wr (i := .invokestatic 76) (mi := 180) (as := [.ref 0, .int (xs 1), .int f, .int (xs 3), .ref 74]) (k := 1) (S' := []) (h' := q1_h) rfl rfl rfl (by decide) (pw_thr (k := 1) ⟨20, _, _, _, _, rfl, rfl, rfl, rfl, rfl⟩ rfl rfl rfl (q1_160 hf) rfl rfl) ?_
  refine pv_go 6 (pc' := 505) (L' := (5, .int 1) :: q1_4) (S' := [.int 1, .ref 900, .ref 39]) (h' := q1_h) rfl rfl rfl rfl (fun _ => rfl) rfl ?_
  refine pv_scr (i := .iaload) (S' := [.int (xs 1), .ref 39]) rfl rfl ?_
  refine pv_go 4 (pc' := 511) (L' := (5, .int 1) :: q1_4) (S' := [.int 2, .ref 900, .int (xs 1), .ref 39]) (h' := q1_h) rfl rfl rfl rfl (fun _ => rfl) rfl ?_
  refine pv_scr (i := .iaload) (S' := [.int (xs 2), .int (xs 1), .ref 39]) rfl rfl ?_
  have e : pv xs 4 1 525 ((5, .int 1) :: q1_4) [.int 3, .ref 900, .int f, .int (xs 1), .ref 39] q1_h := by
    refine pv_scr (i := .iaload) (S' := [.int (xs 3), .int f, .int (xs 1), .ref 39]) rfl rfl ?_
    refine pv_pu (i := .invokevirtual 79) rfl rfl rfl rfl ?_
    refine pu_call (d := 999) (mj := 60) (as := [.ref 39, .int (xs 1), .int f, .int (xs 3)]) (S' := []) rfl rfl rfl (q1_m60 (d := 998) hf ?_)
    exact ⟨60, 26, _, [.ref 900, .int 4], _, rfl, q1_e _⟩
  refine pv_pu (i := .ifCond .eq 7) rfl rfl rfl rfl ?_
  refine pu_seg 1 (pc' := bif pm_c0 .eq (xs 2) then 519 else 515) (L' := (5, .int 1) :: q1_4) (S' := [.int (xs 1), .ref 39]) (h' := q1_h) (fun _ => rfl) ?_
  rw [hx]
  rcases hf with rfl | rfl
  · exact pu_go 5 (pc' := 525) (L' := (5, .int 1) :: q1_4) (S' := [.int 3, .ref 900, .int 0, .int (xs 1), .ref 39]) (h' := q1_h) (fun _ => rfl) rfl e
  · exact pu_go 6 (pc' := 525) (L' := (5, .int 1) :: q1_4) (S' := [.int 3, .ref 900, .int 1, .int (xs 1), .ref 39]) (h' := q1_h) (fun _ => rfl) rfl e
set_option maxRecDepth 100000 in
set_option maxHeartbeats 4000000 in
theorem q1_c7 : pu pl_stop 1000 174 39 q1_4 [.int 7] q1_h (fun pc' L' S' h' => pv xs 4 0 pc' L' S' h') := by
  refine pu_go 6 (pc' := 472) (L' := q1_4) (S' := [.int 1, .ref 900, .ref 0]) (h' := q1_h) (fun _ => rfl) rfl ?_
  refine pv_scr (i := .iaload) (S' := [.int (xs 1), .ref 0]) rfl rfl ?_
  refine pv_go 4 (pc' := 478) (L' := q1_4) (S' := [.int 2, .ref 900, .int (xs 1), .ref 0]) (h' := q1_h) rfl rfl rfl rfl (fun _ => rfl) rfl ?_
  refine pv_scr (i := .iaload) (S' := [.int (xs 2), .int (xs 1), .ref 0]) rfl rfl ?_
  refine pv_pu (i := .ifCond .eq 7) rfl rfl rfl rfl ?_
  refine pu_seg 1 (pc' := bif pm_c0 .eq (xs 2) then 486 else 482) (L' := q1_4) (S' := [.int (xs 1), .ref 0]) (h' := q1_h) (fun _ => rfl) ?_
  cases hb : pm_c0 .eq (xs 2) with
  | true => exact pu_go 5 (pc' := 492) (L' := q1_4) (S' := [.int 3, .ref 900, .int 0, .int (xs 1), .ref 0]) (h' := q1_h) (fun _ => rfl) rfl (q1_c7b (Or.inl rfl) (hb.trans rfl))
  | false => exact pu_go 6 (pc' := 492) (L' := q1_4) (S' := [.int 3, .ref 900, .int 1, .int (xs 1), .ref 0]) (h' := q1_h) (fun _ => rfl) rfl (q1_c7b (Or.inr rfl) (hb.trans rfl))
set_option maxRecDepth 100000 in
set_option maxHeartbeats 4000000 in
/-- count -/
theorem q1_c8b {w : Int32} (hC : px 999 161 0 (lv_args 0 [.ref 0, .int (xs 1)]) [] q1_h (fun v h' => v = some (.int w) ∧ h' = q1_h)) (hM : px 999 61 0 (lv_args 0 [.ref 39, .int (xs 1)]) [] q1_h (fun v _ => v = some (.int w))) : pu pl_stop 1000 174 39 q1_4 [.int 8] q1_h (fun pc' L' S' h' => pv xs 4 0 pc' L' S' h') := by
  refine pu_go 6 (pc' := 568) (L' := q1_4) (S' := [.int 1, .ref 900, .ref 0]) (h' := q1_h) (fun _ => rfl) rfl ?_
  refine pv_scr (i := .iaload) (S' := [.int (xs 1), .ref 0]) rfl rfl ?_
  refine pv_pu (i := .invokevirtual 80) rfl rfl rfl rfl ?_
  refine pu_call (d := 999) (mj := 161) (as := [.ref 0, .int (xs 1)]) (S' := []) rfl rfl rfl (px_imp hC ?_)
  rintro v h1 ⟨rfl, rfl⟩
  refine pu_go 5 (pc' := 578) (L' := q1_4) (S' := [.int 1, .ref 900, .ref 39, .int w]) (h' := q1_h) (fun _ => rfl) rfl ?_
  refine pv_scr (i := .iaload) (S' := [.int (xs 1), .ref 39, .int w]) rfl rfl ?_
  refine pv_pu (i := .invokevirtual 83) rfl rfl rfl rfl ?_
  refine pu_call (d := 999) (mj := 61) (as := [.ref 39, .int (xs 1)]) (S' := [.int w]) rfl rfl rfl (px_imp hM ?_)
  rintro v h1 rfl
  refine pu_seg 1 (pc' := bif pm_c2 .eq w w then 587 else 585) (L' := q1_4) (S' := []) (h' := h1) (fun _ => rfl) ?_
  rw [show pm_c2 .eq w w = true from decide_eq_true rfl]
  exact pu_go 4 (pc' := 26) (L' := (4, .int 4) :: q1_0) (S' := [.ref 900, .int 4]) (h' := h1) (fun _ => rfl) rfl (q1_e _)
set_option maxRecDepth 100000 in
set_option maxHeartbeats 4000000 in
theorem q1_sw {mi pc t : Nat} {dd : Int} {lo hi : Int} {offs : Array Int} {L : pm_L} {S : List Value} {h : pm_H} {v : Int32} (hf : pm_fd (pm_code mi) pc = some (.tableswitch dd lo hi offs)) (hv : v.toInt < lo ∨ hi < v.toInt) (ht : pm_jmp pc dd = some t) : pm_step pm_swA mi pc L (.int v :: S) h = some (.inl (t, L, S, h)) := by
  unfold pm_step
  rw [hf]
  simp only [pm_push, pm_ari, pm_br, if_pos hv, ht, Option.map_some]
set_option maxRecDepth 100000 in
set_option maxHeartbeats 4000000 in
theorem q1_c8 : pu pl_stop 1000 174 39 q1_4 [.int 8] q1_h (fun pc' L' S' h' => pv xs 4 0 pc' L' S' h') := by
  by_cases hv : (xs 1).toInt < 0 ∨ 10 < (xs 1).toInt
  · refine q1_c8b (w := -1) ?_ ?_
    · refine px_seg 1 (pc' := 1) (L' := [(0, .ref 0), (1, .int (xs 1))]) (S' := [.int (xs 1)]) (h' := q1_h) (fun _ => rfl) ?_
      refine px_st (q1_sw (t := 192) rfl hv rfl) ?_
      exact ⟨4, some (.int (-1)), q1_h, rfl, rfl, rfl⟩
    · refine px_seg 4 (pc' := 6) (L' := [(0, .ref 39), (1, .int (xs 1))]) (S' := [.int (xs 1)]) (fun _ => rfl) ?_
      refine px_st (q1_sw (t := 163) rfl hv rfl) ?_
      exact ⟨4, some (.int (-1)), _, rfl, rfl⟩
  · have h1 : ¬ xs 1 < 0 := fun z => hv (Or.inl (by rw [Int32.lt_iff_toInt_lt] at z; simpa using z))
    have h2 : xs 1 ≤ 10 := by
      rw [Int32.le_iff_toInt_le]
      have e1 : (10 : Int32).toInt = 10 := by decide
      omega
    obtain ⟨j, hj, e⟩ := nI_of2 (n := 10) (M := 10) (by decide) h1 h2
    have key : ∀ w, px 999 161 0 (lv_args 0 [.ref 0, .int (nI j)]) [] q1_h (fun v h' => v = some (.int w) ∧ h' = q1_h) → px 999 61 0 (lv_args 0 [.ref 39, .int (nI j)]) [] q1_h (fun v _ => v = some (.int w)) → pu pl_stop 1000 174 39 q1_4 [.int 8] q1_h (fun pc' L' S' h' => pv xs 4 0 pc' L' S' h') := fun w a b => q1_c8b (w := w) (by rw [e]; exact a) (by rw [e]; exact b)
    match j, hj, key with
    | 0, _, key => exact key 0 ⟨60, some (.int 0), q1_h, rfl, rfl, rfl⟩ ⟨60, some (.int 0), _, rfl, rfl⟩
    | 1, _, key => exact key 0 ⟨60, some (.int 0), q1_h, rfl, rfl, rfl⟩ ⟨60, some (.int 0), _, rfl, rfl⟩
    | 2, _, key => exact key 0 ⟨60, some (.int 0), q1_h, rfl, rfl, rfl⟩ ⟨60, some (.int 0), _, rfl, rfl⟩
    | 3, _, key => exact key 0 ⟨60, some (.int 0), q1_h, rfl, rfl, rfl⟩ ⟨60, some (.int 0), _, rfl, rfl⟩
    | 4, _, key => exact key 0 ⟨60, some (.int 0), q1_h, rfl, rfl, rfl⟩ ⟨60, some (.int 0), _, rfl, rfl⟩
    | 5, _, key => exact key 0 ⟨60, some (.int 0), q1_h, rfl, rfl, rfl⟩ ⟨60, some (.int 0), _, rfl, rfl⟩
    | 6, _, key => exact key 0 ⟨60, some (.int 0), q1_h, rfl, rfl, rfl⟩ ⟨60, some (.int 0), _, rfl, rfl⟩
    | 7, _, key => exact key (-1) ⟨60, some (.int (-1)), q1_h, rfl, rfl, rfl⟩ ⟨60, some (.int (-1)), _, rfl, rfl⟩
    | 8, _, key => exact key (-1) ⟨60, some (.int (-1)), q1_h, rfl, rfl, rfl⟩ ⟨60, some (.int (-1)), _, rfl, rfl⟩
    | 9, _, key => exact key (-1) ⟨60, some (.int (-1)), q1_h, rfl, rfl, rfl⟩ ⟨60, some (.int (-1)), _, rfl, rfl⟩
    | 10, _, key => exact key 0 ⟨60, some (.int 0), q1_h, rfl, rfl, rfl⟩ ⟨60, some (.int 0), _, rfl, rfl⟩
    | n + 11, hj, _ => exact absurd hj (by omega)
set_option maxRecDepth 100000 in
set_option maxHeartbeats 4000000 in
/-- one call -/
theorem q1_call : pu pl_stop 1000 174 39 q1_4 [.int (xs 0 &&& (Int8.ofInt 15).toInt32)] q1_h (fun pc' L' S' h' => pv xs 4 0 pc' L' S' h') := by
  generalize xs 0 &&& (Int8.ofInt 15).toInt32 = v
  by_cases hv : v.toInt < 0 ∨ 8 < v.toInt
  · refine pu_st rfl (q1_sw (t := 587) rfl hv rfl) ?_
    exact pu_go 4 (pc' := 26) (L' := (4, .int 4) :: q1_0) (S' := [.ref 900, .int 4]) (h' := q1_h) (fun _ => rfl) rfl (q1_e _)
  · have h1 : ¬ v < 0 := fun z => hv (Or.inl (by rw [Int32.lt_iff_toInt_lt] at z; simpa using z))
    have h2 : v ≤ 8 := by
      rw [Int32.le_iff_toInt_le]
      have e1 : (8 : Int32).toInt = 8 := by decide
      omega
    obtain ⟨j, hj, rfl⟩ := nI_of2 (n := 8) (M := 8) (by decide) h1 h2
    match j, hj with
    | 0, _ => exact q1_c0
    | 1, _ => exact q1_c1
    | 2, _ => exact q1_c2
    | 3, _ => exact q1_c3
    | 4, _ => exact q1_c4
    | 5, _ => exact q1_c5
    | 6, _ => exact q1_c6
    | 7, _ => exact q1_c7
    | 8, _ => exact q1_c8
    | n + 9, hj => exact absurd hj (by omega)
end P1D
