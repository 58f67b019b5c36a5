section P1C0
set_option maxRecDepth 100000 in
set_option maxHeartbeats 4000000 in
/-- the class's check on the empty text -/
theorem q1_154 {Q : Option Value → pm_H → Prop} (q : ∀ h' : pm_H, h'.1 39 = (fun _ => 0) → h'.2.2 39 = pg_f pg_lM 39 → Q (some (.int 0)) h') : px 999 154 0 (lv_args 0 [.ref 0]) [] q1_h Q := by
  refine px_sg 300 284 (pc' := 30) (L' := [(0, .ref 0)]) (S' := [.int 0, .ref 29]) (fun _ => rfl) ?_
  refine px_call (d := 998) (mj := 170) (as := [.ref 29, .int 0]) (S' := []) rfl rfl (ck_170 (fun F => ?_))
  exact ⟨600, some (.int 0), _, rfl, q _ rfl rfl⟩
end P1C0
