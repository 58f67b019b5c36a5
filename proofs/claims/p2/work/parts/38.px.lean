/-! A pure layer over the machine's runs: more fuel answers the same; runs as statements on what they answer -/
set_option maxHeartbeats 1000000 in
theorem px_mono (sw : List (Nat × Nat)) : ∀ (n m d mi pc : Nat) (L : pm_L) (S : List Value) (h : pm_H) (r : Option Value × pm_H), pm_run sw n d mi pc L S h = some r → n ≤ m → pm_run sw m d mi pc L S h = some r := by
  intro n
  induction n with
  | zero => intro m d mi pc L S h r hr; cases hr
  | succ n ih =>
    intro m d mi pc L S h r hr hm
    cases m with
    | zero => exact absurd hm (by omega)
    | succ m =>
      have hm' : n ≤ m := by omega
      unfold pm_run at hr ⊢
      cases hs : pm_step sw mi pc L S h with
      | none =>
        rw [hs] at hr
        dsimp only at hr ⊢
        cases hf : pm_fd (pm_code mi) pc with
        | none => rw [hf] at hr; cases hr
        | some i =>
          rw [hf] at hr
          dsimp only at hr ⊢
          cases hc : pm_cpy i sw (pm_ow mi) h S with
          | none => rw [hc] at hr; cases hr
          | some q =>
            rw [hc] at hr
            obtain ⟨h1, S1⟩ := q
            dsimp only at hr ⊢
            cases hb : Nat.blt 0 d with
            | false => rw [hb] at hr; cases hr
            | true =>
              rw [hb] at hr
              exact ih m d mi (pc + 3) L S1 h1 r hr hm'
      | some q =>
        rw [hs] at hr
        rcases q with ⟨pc1, L1, S1, h1⟩ | v | ⟨mj, as, S1⟩
        · exact ih m d mi pc1 L1 S1 h1 r hr hm'
        · exact hr
        · dsimp only at hr ⊢
          cases d with
          | zero => cases hr
          | succ d =>
            dsimp only at hr ⊢
            cases hp : pm_prim mj as with
            | some v =>
              rw [hp] at hr
              dsimp only at hr ⊢
              cases hb : Nat.ble 4 d with
              | false => rw [hb] at hr; cases hr
              | true =>
                rw [hb] at hr
                exact ih m (d + 1) mi (pc + 3) L (v :: S1) h r hr hm'
            | none =>
              rw [hp] at hr
              dsimp only at hr ⊢
              cases hc : pm_run sw n d mj 0 (lv_args 0 as) [] h with
              | none => rw [hc] at hr; cases hr
              | some q =>
                rw [hc] at hr
                rw [ih m d mj 0 (lv_args 0 as) [] h q hc hm']
                obtain ⟨v, h1⟩ := q
                exact ih m (d + 1) mi (pc + 3) L (v.toList ++ S1) h1 r hr hm'
set_option maxHeartbeats 1000000 in
theorem pu_mono (sw : List (Nat × Nat)) (stop : Nat → Bool) : ∀ (n m d mi pc : Nat) (L : pm_L) (S : List Value) (h : pm_H) (r : Nat × pm_L × List Value × pm_H), pp_run sw stop n d mi pc L S h = some r → n ≤ m → pp_run sw stop m d mi pc L S h = some r := by
  intro n
  induction n with
  | zero => intro m d mi pc L S h r hr; cases hr
  | succ n ih =>
    intro m d mi pc L S h r hr hm
    cases m with
    | zero => exact absurd hm (by omega)
    | succ m =>
      have hm' : n ≤ m := by omega
      unfold pp_run at hr ⊢
      cases hst : stop pc with
      | true => rw [hst] at hr; exact hr
      | false =>
      rw [hst] at hr
      dsimp only [cond] at hr ⊢
      cases hs : pm_step sw mi pc L S h with
      | none =>
        rw [hs] at hr
        dsimp only at hr ⊢
        cases hf : pm_fd (pm_code mi) pc with
        | none => rw [hf] at hr; cases hr
        | some i =>
          rw [hf] at hr
          dsimp only at hr ⊢
          cases hc : pm_cpy i sw (pm_ow mi) h S with
          | none => rw [hc] at hr; cases hr
          | some q =>
            rw [hc] at hr
            obtain ⟨h1, S1⟩ := q
            dsimp only at hr ⊢
            cases hb : Nat.blt 0 d with
            | false => rw [hb] at hr; cases hr
            | true =>
              rw [hb] at hr
              exact ih m d mi (pc + 3) L S1 h1 r hr hm'
      | some q =>
        rw [hs] at hr
        rcases q with ⟨pc1, L1, S1, h1⟩ | v | ⟨mj, as, S1⟩
        · exact ih m d mi pc1 L1 S1 h1 r hr hm'
        · exact hr
        · dsimp only at hr ⊢
          cases d with
          | zero => cases hr
          | succ d =>
            dsimp only at hr ⊢
            cases hp : pm_prim mj as with
            | some v =>
              rw [hp] at hr
              dsimp only at hr ⊢
              cases hb : Nat.ble 4 d with
              | false => rw [hb] at hr; cases hr
              | true =>
                rw [hb] at hr
                exact ih m (d + 1) mi (pc + 3) L (v :: S1) h r hr hm'
            | none =>
              rw [hp] at hr
              dsimp only at hr ⊢
              cases hc : pm_run sw n d mj 0 (lv_args 0 as) [] h with
              | none => rw [hc] at hr; cases hr
              | some q =>
                rw [hc] at hr
                rw [px_mono sw n m d mj 0 (lv_args 0 as) [] h q hc hm']
                obtain ⟨v, h1⟩ := q
                exact ih m (d + 1) mi (pc + 3) L (v.toList ++ S1) h1 r hr hm'
/-- the run from here ends, with Q of its answer and heap -/
def px (d mi pc : Nat) (L : pm_L) (S : List Value) (h : pm_H) (Q : Option Value → pm_H → Prop) : Prop := ∃ (n : Nat) (v : Option Value) (h' : pm_H), pm_run pm_swA n d mi pc L S h = some (v, h') ∧ Q v h'
section PX1
variable {d mi pc : Nat} {L : pm_L} {S : List Value} {h : pm_H} {Q : Option Value → pm_H → Prop} {pc' : Nat} {L' : pm_L} {S' : List Value} {h' : pm_H}
theorem px_seg (k : Nat) (hs : ∀ n, pm_run pm_swA (n + k) d mi pc L S h = pm_run pm_swA n d mi pc' L' S' h') (q : px d mi pc' L' S' h' Q) : px d mi pc L S h Q := by
  obtain ⟨n, v, h1, h2, h3⟩ := q
  exact ⟨n + k, v, h1, (hs n).trans h2, h3⟩
theorem px_st (hs : pm_step pm_swA mi pc L S h = some (.inl (pc', L', S', h'))) (q : px d mi pc' L' S' h' Q) : px d mi pc L S h Q := by
  refine px_seg 1 (fun n => ?_) q
  show pm_run pm_swA (n + 1) d mi pc L S h = _
  conv => lhs; unfold pm_run
  rw [hs]
theorem px_ret {v : Option Value} (hs : pm_step pm_swA mi pc L S h = some (.inr (.inl v))) (q : Q v h) : px d mi pc L S h Q :=
  ⟨1, v, h, by unfold pm_run; rw [hs], q⟩
theorem px_call {mj : Nat} {as : List Value} (hs : pm_step pm_swA mi pc L S h = some (.inr (.inr (mj, as, S')))) (hp : pm_prim mj as = none)
    (q : px d mj 0 (lv_args 0 as) [] h (fun v h1 => px (d + 1) mi (pc + 3) L (v.toList ++ S') h1 Q)) : px (d + 1) mi pc L S h Q := by
  obtain ⟨n, v, h1, h2, n2, v2, h3, h4, h5⟩ := q
  refine ⟨n + n2 + 1, v2, h3, ?_, h5⟩
  unfold pm_run
  rw [hs]
  dsimp only
  rw [hp]
  dsimp only
  rw [px_mono _ n (n + n2) d mj 0 _ [] h (v, h1) h2 (by omega)]
  exact px_mono _ n2 (n + n2) (d + 1) mi (pc + 3) L _ h1 (v2, h3) h4 (by omega)
theorem px_prim {mj : Nat} {as : List Value} {v : Value} (hs : pm_step pm_swA mi pc L S h = some (.inr (.inr (mj, as, S')))) (hp : pm_prim mj as = some v) (hd : 4 ≤ d) (q : px (d + 1) mi (pc + 3) L (v :: S') h Q) : px (d + 1) mi pc L S h Q := by
  obtain ⟨n, v2, h3, h4, h5⟩ := q
  refine ⟨n + 1, v2, h3, ?_, h5⟩
  unfold pm_run
  rw [hs]
  dsimp only
  rw [hp]
  dsimp only
  rw [Nat.ble_eq_true_of_le hd]
  exact h4
theorem px_cpy {i : Instr} (hs : pm_step pm_swA mi pc L S h = none) (hf : pm_fd (pm_code mi) pc = some i) (hc : pm_cpy i pm_swA (pm_ow mi) h S = some (h', S')) (hd : 0 < d) (q : px d mi (pc + 3) L S' h' Q) : px d mi pc L S h Q := by
  obtain ⟨n, v2, h3, h4, h5⟩ := q
  refine ⟨n + 1, v2, h3, ?_, h5⟩
  unfold pm_run
  rw [hs]
  dsimp only
  rw [hf]
  dsimp only
  rw [hc]
  dsimp only
  rw [show Nat.blt 0 d = true from Nat.ble_eq_true_of_le hd]
  exact h4
theorem px_imp {Q' : Option Value → pm_H → Prop} (q : px d mi pc L S h Q) (k : ∀ v h1, Q v h1 → Q' v h1) : px d mi pc L S h Q' := by
  obtain ⟨n, v, h1, h2, h3⟩ := q
  exact ⟨n, v, h1, h2, k v h1 h3⟩
end PX1
/-- the run from here comes to a stop place, with Q there -/
def pu (stop : Nat → Bool) (d mi pc : Nat) (L : pm_L) (S : List Value) (h : pm_H) (Q : Nat → pm_L → List Value → pm_H → Prop) : Prop := ∃ (n pc' : Nat) (L' : pm_L) (S' : List Value) (h' : pm_H), pp_run pm_swA stop n d mi pc L S h = some (pc', L', S', h') ∧ Q pc' L' S' h'
section PU1
variable {stop : Nat → Bool} {d mi pc : Nat} {L : pm_L} {S : List Value} {h : pm_H} {Q : Nat → pm_L → List Value → pm_H → Prop} {pc' : Nat} {L' : pm_L} {S' : List Value} {h' : pm_H}
theorem pu_stop (hst : stop pc = true) (q : Q pc L S h) : pu stop d mi pc L S h Q := ⟨1, pc, L, S, h, by unfold pp_run; rw [hst]; rfl, q⟩
theorem pu_seg (k : Nat) (hs : ∀ n, pp_run pm_swA stop (n + k) d mi pc L S h = pp_run pm_swA stop n d mi pc' L' S' h') (q : pu stop d mi pc' L' S' h' Q) : pu stop d mi pc L S h Q := by
  obtain ⟨n, a1, a2, a3, a4, h2, h3⟩ := q
  exact ⟨n + k, a1, a2, a3, a4, (hs n).trans h2, h3⟩
theorem pu_st (hst : stop pc = false) (hs : pm_step pm_swA mi pc L S h = some (.inl (pc', L', S', h'))) (q : pu stop d mi pc' L' S' h' Q) : pu stop d mi pc L S h Q := by
  refine pu_seg 1 (fun n => ?_) q
  show pp_run pm_swA stop (n + 1) d mi pc L S h = _
  conv => lhs; unfold pp_run
  rw [hst, hs]
  rfl
theorem pu_call {mj : Nat} {as : List Value} (hst : stop pc = false) (hs : pm_step pm_swA mi pc L S h = some (.inr (.inr (mj, as, S')))) (hp : pm_prim mj as = none)
    (q : px d mj 0 (lv_args 0 as) [] h (fun v h1 => pu stop (d + 1) mi (pc + 3) L (v.toList ++ S') h1 Q)) : pu stop (d + 1) mi pc L S h Q := by
  obtain ⟨n, v, h1, h2, n2, a1, a2, a3, a4, h4, h5⟩ := q
  refine ⟨n + n2 + 1, a1, a2, a3, a4, ?_, h5⟩
  unfold pp_run
  rw [hst, hs]
  dsimp only [cond]
  rw [hp]
  dsimp only
  rw [px_mono _ n (n + n2) d mj 0 _ [] h (v, h1) h2 (by omega)]
  exact pu_mono _ stop n2 (n + n2) (d + 1) mi (pc + 3) L _ h1 (a1, a2, a3, a4) h4 (by omega)
theorem pu_prim {mj : Nat} {as : List Value} {v : Value} (hst : stop pc = false) (hs : pm_step pm_swA mi pc L S h = some (.inr (.inr (mj, as, S')))) (hp : pm_prim mj as = some v) (hd : 4 ≤ d) (q : pu stop (d + 1) mi (pc + 3) L (v :: S') h Q) : pu stop (d + 1) mi pc L S h Q := by
  obtain ⟨n, a1, a2, a3, a4, h4, h5⟩ := q
  refine ⟨n + 1, a1, a2, a3, a4, ?_, h5⟩
  unfold pp_run
  rw [hst, hs]
  dsimp only [cond]
  rw [hp]
  dsimp only
  rw [Nat.ble_eq_true_of_le hd]
  exact h4
theorem pu_cpy {i : Instr} (hst : stop pc = false) (hs : pm_step pm_swA mi pc L S h = none) (hf : pm_fd (pm_code mi) pc = some i) (hc : pm_cpy i pm_swA (pm_ow mi) h S = some (h', S')) (hd : 0 < d) (q : pu stop d mi (pc + 3) L S' h' Q) : pu stop d mi pc L S h Q := by
  obtain ⟨n, a1, a2, a3, a4, h4, h5⟩ := q
  refine ⟨n + 1, a1, a2, a3, a4, ?_, h5⟩
  unfold pp_run
  rw [hst, hs]
  dsimp only [cond]
  rw [hf]
  dsimp only
  rw [hc]
  dsimp only
  rw [show Nat.blt 0 d = true from Nat.ble_eq_true_of_le hd]
  exact h4
end PU1
/-- a method that may throw, run to its end -/
theorem pt_of {d mj : Nat} {as : List Value} {h : pm_H} {r : (Option Value × pm_H) ⊕ (Nat × pm_H)} (q : pu (pt_stop mj) d mj 0 (lv_args 0 as) [] h (fun pc _ S h' => pt_end mj pc S h' = some r)) : ∃ n, ∀ m, n ≤ m → pt_run pm_swA m d mj as h = some r := by
  obtain ⟨n, a1, a2, a3, a4, h2, h3⟩ := q
  refine ⟨n, fun m hm => ?_⟩
  unfold pt_run
  rw [pu_mono _ _ n m _ _ _ _ _ _ _ h2 hm]
  exact h3
/-- a wrapper whose call throws -/
theorem pw_thr {d mi pc mj x hpc : Nat} {k : Int} {as as2 S S1 : List Value} {L : pm_L} {h h1 h2 : pm_H} {idx : Nat} (q : pu (pw_stop mi) d mi 0 (lv_args 0 as) [] h (fun a1 a2 a3 a4 => a1 = pc ∧ a2 = L ∧ a3 = S ∧ a4 = h1)) (hf : pm_fd (pm_code mi) pc = some (.invokevirtual idx)) (hc : pm_call (.invokevirtual idx) pm_swA (pm_ow mi) S = some (mj, as2, S1)) (ho : Nat.beq (pm_ow mj) 5 = true)
    (ht : ∃ n, ∀ m, n ≤ m → pt_run pm_swA m d mj as2 h1 = some (.inr (x, h2))) (hw : pw_find (pw_hh mi) pc x = some hpc) (hk : pw_hk mi hpc = some k) : ∃ n, ∀ m, n ≤ m → pw_run pm_swA m d mi as h = some (Int32.ofInt k, h2) := by
  obtain ⟨n, a1, a2, a3, a4, e2, rfl, rfl, rfl, rfl⟩ := q
  obtain ⟨n2, ht⟩ := ht
  refine ⟨n + n2, fun m hm => ?_⟩
  unfold pw_run
  rw [pu_mono _ _ n m _ _ _ _ _ _ _ e2 (by omega)]
  dsimp only
  rw [hf]
  dsimp only
  rw [hc]
  dsimp only
  rw [ho, ht m (by omega)]
  dsimp only [cond]
  rw [hw]
  dsimp only
  rw [hk]
  rfl
/-- a wrapper whose call returns -/
theorem pw_val {d mi pc mj : Nat} {k : Int32} {as as2 S S1 : List Value} {L : pm_L} {v : Option Value} {h h1 h2 h3 : pm_H} {idx : Nat} (q : pu (pw_stop mi) d mi 0 (lv_args 0 as) [] h (fun a1 a2 a3 a4 => a1 = pc ∧ a2 = L ∧ a3 = S ∧ a4 = h1)) (hf : pm_fd (pm_code mi) pc = some (.invokevirtual idx)) (hc : pm_call (.invokevirtual idx) pm_swA (pm_ow mi) S = some (mj, as2, S1)) (ho : Nat.beq (pm_ow mj) 5 = true)
    (ht : ∃ n, ∀ m, n ≤ m → pt_run pm_swA m d mj as2 h1 = some (.inl (v, h2))) (q2 : pu (pw_stop mi) d mi (pc + 3) L (v.toList ++ S1) h2 (fun a1 _ a3 a4 => pm_fd (pm_code mi) a1 = some .ireturn ∧ a3 = [.int k] ∧ a4 = h3)) : ∃ n, ∀ m, n ≤ m → pw_run pm_swA m d mi as h = some (k, h3) := by
  obtain ⟨n, a1, a2, a3, a4, e2, rfl, rfl, rfl, rfl⟩ := q
  obtain ⟨n2, ht⟩ := ht
  obtain ⟨n3, b1, b2, b3, b4, e3, e4, rfl, rfl⟩ := q2
  refine ⟨n + n2 + n3, fun m hm => ?_⟩
  unfold pw_run
  rw [pu_mono _ _ n m _ _ _ _ _ _ _ e2 (by omega)]
  dsimp only
  rw [hf]
  dsimp only
  rw [hc]
  dsimp only
  rw [ho, ht m (by omega)]
  dsimp only [cond]
  rw [pu_mono _ _ n3 m _ _ _ _ _ _ _ e3 (by omega)]
  dsimp only
  rw [e4]
