/-! p1: the law's loop over scripts of at most four ints -/
def pl_isr (i : Instr) : Bool := match i with
  | .ireturn => true
  | _ => false
set_option maxRecDepth 100000 in
set_option maxHeartbeats 4000000 in
theorem pu_go {stop : Nat → Bool} {d mi pc : Nat} {L : pm_L} {S : List Value} {h : pm_H} {Q : Nat → pm_L → List Value → pm_H → Prop} (k : Nat) {pc' : Nat} {L' : pm_L} {S' : List Value} {h' : pm_H} (hs : ∀ n, pp_run pm_swA stop (n + k) d mi pc L S h = pp_run pm_swA stop n d mi pc' L' S' h') (hst : stop pc' = true) (q : Q pc' L' S' h') : pu stop d mi pc L S h Q := pu_seg k hs (pu_stop hst q)
section PV2
variable {xs : Nat → Int32} {Ln x pc : Nat} {L : pm_L} {S : List Value} {h : pm_H} {i : Instr}
set_option maxRecDepth 100000 in
set_option maxHeartbeats 4000000 in
theorem pv_pu (hf : pm_fd (pm_code 174) pc = some i) (hn : pl_scr xs Ln i S = none) (hw : pl_wr i S = none) (hi : pl_isr i = false) (q : pu pl_stop 1000 174 pc L S h (fun pc' L' S' h' => pv xs Ln x pc' L' S' h')) : pv xs Ln x pc L S h :=
  pv_pp hf hn hw (fun e => by subst e; cases hi) q
set_option maxRecDepth 100000 in
set_option maxHeartbeats 4000000 in
theorem pv_go (k : Nat) {pc' : Nat} {L' : pm_L} {S' : List Value} {h' : pm_H} (hf : pm_fd (pm_code 174) pc = some i) (hn : pl_scr xs Ln i S = none) (hw : pl_wr i S = none) (hi : pl_isr i = false) (hs : ∀ n, pp_run pm_swA pl_stop (n + k) 1000 174 pc L S h = pp_run pm_swA pl_stop n 1000 174 pc' L' S' h') (hst : pl_stop pc' = true) (q : pv xs Ln x pc' L' S' h') : pv xs Ln x pc L S h :=
  pv_pu hf hn hw hi (pu_go k hs hst q)
end PV2
abbrev q1_0 : pm_L := [(3, .ref 74), (2, .ref 39), (1, .ref 0), (0, .ref 900)]
abbrev q1_4 : pm_L := [(4, .int 0), (3, .ref 74), (2, .ref 39), (1, .ref 0), (0, .ref 900)]
abbrev q1_h : pm_H := pg (fun _ _ => 0) (fun _ _ => 0) (some 1003) (fun _ => none)
section P1B
variable {xs : Nat → Int32} {x : Nat} {h : pm_H}
set_option maxRecDepth 100000 in
set_option maxHeartbeats 4000000 in
/-- the loop's end -/
theorem q1_e (L : pm_L) : pv xs 4 x 26 L [.ref 900, .int 4] h :=
  pv_scr (i := .arraylength) (S' := [.int (Int32.ofNat 4), .int 4]) rfl rfl (pv_go 4 (pc' := 594) (L' := L) (S' := [.int 1]) (h' := h) rfl rfl rfl rfl (fun _ => rfl) rfl (pv_ret rfl rfl))
set_option maxRecDepth 100000 in
set_option maxHeartbeats 4000000 in
/-- feed: the model's half -/
theorem q1_m (r : Int32) (C : Int64) (hC : C = ((xs 1).toInt64 <<< ((Int8.ofInt 32).toInt32.toInt64 &&& 63)) ||| ((xs 2).toInt64 &&& 4294967295)) (hm : px 999 2 0 (lv_args 0 [.ref 39, .long C, .int (xs 3)]) [] h (fun v _ => v = some (.int r))) : pu pl_stop 1000 174 120 q1_4 [.int r] h (fun pc' L' S' h' => pv xs 4 0 pc' L' S' h') := by
  refine pu_go 5 (pc' := 126) (L' := q1_4) (S' := [.int 1, .ref 900, .ref 39, .int r]) (h' := h) (fun _ => rfl) rfl ?_
  refine pv_scr (i := .iaload) (S' := [.int (xs 1), .ref 39, .int r]) rfl rfl ?_
  refine pv_go 7 (pc' := 136) (L' := q1_4) (S' := [.int 2, .ref 900, .long ((xs 1).toInt64 <<< ((Int8.ofInt 32).toInt32.toInt64 &&& 63)), .ref 39, .int r]) (h' := h) rfl rfl rfl rfl (fun _ => rfl) rfl ?_
  refine pv_scr (i := .iaload) (S' := [.int (xs 2), .long ((xs 1).toInt64 <<< ((Int8.ofInt 32).toInt32.toInt64 &&& 63)), .ref 39, .int r]) rfl rfl ?_
  refine pv_go 8 (pc' := 148) (L' := q1_4) (S' := [.int 3, .ref 900, .long (((xs 1).toInt64 <<< ((Int8.ofInt 32).toInt32.toInt64 &&& 63)) ||| ((xs 2).toInt64 &&& 4294967295)), .ref 39, .int r]) (h' := h) rfl rfl rfl rfl (fun _ => rfl) rfl ?_
  rw [← hC]
  refine pv_scr (i := .iaload) (S' := [.int (xs 3), .long C, .ref 39, .int r]) rfl rfl ?_
  refine pv_pu (i := .invokevirtual 47) rfl rfl rfl rfl ?_
  refine pu_call (d := 999) (mj := 2) (as := [.ref 39, .long C, .int (xs 3)]) (S' := [.int r]) rfl rfl rfl (px_imp hm ?_)
  intro v h1 hv
  subst hv
  refine pu_seg 1 (pc' := bif pm_c2 .eq r r then 587 else 155) (L' := q1_4) (S' := []) (h' := h1) (fun _ => rfl) ?_
  rw [show pm_c2 .eq r r = true from decide_eq_true rfl]
  exact pu_go 4 (pc' := 26) (L' := (4, .int 4) :: q1_0) (S' := [.ref 900, .int 4]) (h' := h1) (fun _ => rfl) rfl (q1_e _)
set_option maxRecDepth 100000 in
set_option maxHeartbeats 4000000 in
theorem q1_c0 : pu pl_stop 1000 174 39 q1_4 [.int 0] q1_h (fun pc' L' S' h' => pv xs 4 0 pc' L' S' h') := by
  refine pu_go 6 (pc' := 94) (L' := q1_4) (S' := [.int 1, .ref 900, .ref 0]) (h' := q1_h) (fun _ => rfl) rfl ?_
  refine pv_scr (i := .iaload) (S' := [.int (xs 1), .ref 0]) rfl rfl ?_
  refine pv_go 7 (pc' := 104) (L' := q1_4) (S' := [.int 2, .ref 900, .long ((xs 1).toInt64 <<< ((Int8.ofInt 32).toInt32.toInt64 &&& 63)), .ref 0]) (h' := q1_h) rfl rfl rfl rfl (fun _ => rfl) rfl ?_
  refine pv_scr (i := .iaload) (S' := [.int (xs 2), .long ((xs 1).toInt64 <<< ((Int8.ofInt 32).toInt32.toInt64 &&& 63)), .ref 0]) rfl rfl ?_
  refine pv_go 8 (pc' := 116) (L' := q1_4) (S' := [.int 3, .ref 900, .long (((xs 1).toInt64 <<< ((Int8.ofInt 32).toInt32.toInt64 &&& 63)) ||| ((xs 2).toInt64 &&& 4294967295)), .ref 0]) (h' := q1_h) rfl rfl rfl rfl (fun _ => rfl) rfl ?_
  obtain ⟨N, hN, hC⟩ := wb_of (((xs 1).toInt64 <<< ((Int8.ofInt 32).toInt32.toInt64 &&& 63)) ||| ((xs 2).toInt64 &&& 4294967295))
  rw [hC]
  refine pv_scr (i := .iaload) (S' := [.int (xs 3), .long (lN N), .ref 0]) rfl rfl ?_
  refine pv_pu (i := .invokevirtual 43) rfl rfl rfl rfl ?_
  refine pu_call (d := 999) (mj := 153) (as := [.ref 0, .long (lN N), .int (xs 3)]) (S' := []) rfl rfl rfl ?_
  refine fd_153 (d := 998) (l := 0) hN (by decide) rfl (fun hB => ?_) (fun m I' hm hB hI hF => ?_)
  · exact q1_m 0 (lN N) hC.symm (fm_2 (l := 0) (by decide) rfl (fun I' _ _ _ => rfl) (fun m I' _ hB' _ _ => absurd hB' hB))
  · exact q1_m 1 (lN N) hC.symm (fm_2 (l := 0) (by decide) (by rw [hF.1 39 (by decide) (by decide)]; rfl) (fun I' hB' _ _ => absurd hB hB') (fun m I' _ _ _ _ => rfl))
end P1B
