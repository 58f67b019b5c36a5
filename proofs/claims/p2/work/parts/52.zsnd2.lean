/-! The calculus is sound: the steps -/
def zok (md : Bool) (mi pc : Nat) : Prop := md = true → pt_stop mi pc = false
/-- what is asked of a meaning: it is kept by steps, answers, calls, copies -/
def zS (d mi : Nat) (md : Bool) (pc : Nat) (P : Nat → pm_L → List Value → pm_H → Prop) (R : Option Value → pm_H → Prop) : Prop :=
  (∀ (L : pm_L) (S : List Value) (h : pm_H) (pc' : Nat) (L' : pm_L) (S' : List Value) (h' : pm_H), zok md mi pc → pm_step pm_swA mi pc L S h = some (.inl (pc', L', S', h')) → P pc' L' S' h' → P pc L S h) ∧
  (∀ (L : pm_L) (S : List Value) (h : pm_H) (v : Option Value), md = false → pm_step pm_swA mi pc L S h = some (.inr (.inl v)) → R v h → P pc L S h) ∧
  (∀ (L : pm_L) (S : List Value) (h : pm_H) (mj : Nat) (as S' : List Value), zok md mi pc → pm_step pm_swA mi pc L S h = some (.inr (.inr (mj, as, S'))) → pm_prim mj as = none → 0 < d → px (d - 1) mj 0 (lv_args 0 as) [] h (fun v h1 => P (pc + 3) L (v.toList ++ S') h1) → P pc L S h) ∧
  (∀ (L : pm_L) (S : List Value) (h : pm_H) (i : Instr) (h' : pm_H) (S' : List Value), zok md mi pc → pm_step pm_swA mi pc L S h = none → pm_fd (pm_code mi) pc = some i → pm_cpy i pm_swA (pm_ow mi) h S = some (h', S') → 0 < d → P (pc + 3) L S' h' → P pc L S h)
theorem zstep_ok {mi pc pc' : Nat} {i : Instr} {M M' : zM} {S S' : List zv} {L : pm_L} {h : pm_H} (hf : pm_fd (pm_code mi) pc = some i) (hz : zstep i (pm_mx mi) pc M S = some (pc', M', S')) (hL : zlr M L) : ∃ L', pm_step pm_swA mi pc L (S.map zV) h = some (.inl (pc', L', S'.map zV, h)) ∧ zlr M' L' := by
  unfold zstep at hz
  split at hz
  · cases hz; exact ⟨L, by unfold pm_step; rw [hf]; rfl, hL⟩
  · rename_i n
    obtain ⟨hg, he⟩ := pm_bif hz
    cases he
    obtain ⟨g1, g2⟩ := Bool.and_eq_true_iff.mp hg
    have g1 := of_decide_eq_true g1
    have g2 := of_decide_eq_true g2
    refine ⟨L, ?_, hL⟩
    have e : (Int8.ofInt n).toInt32 = Int32.ofInt n := by
      apply Int32.toInt_inj.mp
      rw [Int8.toInt_toInt32, Int8.toInt_ofInt_of_le (by omega) (by omega), zi_to (by omega) (by omega)]
    unfold pm_step
    rw [hf]
    show some (Sum.inl (pc + 2, L, Value.int (Int8.ofInt n).toInt32 :: S.map zV, h)) = _
    rw [e]
    rfl
  · rename_i n
    obtain ⟨hg, he⟩ := pm_bif hz
    cases he
    obtain ⟨g1, g2⟩ := Bool.and_eq_true_iff.mp hg
    have g1 := of_decide_eq_true g1
    have g2 := of_decide_eq_true g2
    refine ⟨L, ?_, hL⟩
    have e : (Int16.ofInt n).toInt32 = Int32.ofInt n := by
      apply Int32.toInt_inj.mp
      rw [Int16.toInt_toInt32, Int16.toInt_ofInt_of_le (by omega) (by omega), zi_to (by omega) (by omega)]
    unfold pm_step
    rw [hf]
    show some (Sum.inl (pc + 3, L, Value.int (Int16.ofInt n).toInt32 :: S.map zV, h)) = _
    rw [e]
    rfl
  · rename_i n
    cases hz
    refine ⟨L, ?_, hL⟩
    unfold pm_step
    rw [hf]
    show some (Sum.inl (pc + 1, L, Value.long (Int64.ofNat (n : Nat)) :: S.map zV, h)) = some (Sum.inl (pc + 1, L, Value.long (Int64.ofInt ((n : Nat) : Int)) :: S.map zV, h))
    rw [Int64.ofInt_eq_ofNat]
  · split at hz
    · rename_i x e
      cases hz
      have e2 : pm_at L _ = some (.int (Int32.ofInt x)) := hL _ _ e
      refine ⟨L, ?_, hL⟩
      unfold pm_step
      rw [hf]
      simp only [pm_push, pm_atI, e2, Option.map_some]
      rfl
    · cases hz
  · split at hz
    · rename_i x e
      cases hz
      have e2 : pm_at L _ = some (.int (Int32.ofInt x)) := hL _ _ e
      refine ⟨L, ?_, hL⟩
      unfold pm_step
      rw [hf]
      simp only [pm_push, pm_atI, e2, Option.map_some]
      rfl
    · cases hz
  · split at hz
    · rename_i x e
      cases hz
      have e2 : pm_at L _ = some (.long (Int64.ofInt x)) := hL _ _ e
      refine ⟨L, ?_, hL⟩
      unfold pm_step
      rw [hf]
      simp only [pm_push, pm_atL, e2, Option.map_some]
      rfl
    · cases hz
  · split at hz
    · rename_i x e
      cases hz
      have e2 : pm_at L _ = some (.long (Int64.ofInt x)) := hL _ _ e
      refine ⟨L, ?_, hL⟩
      unfold pm_step
      rw [hf]
      simp only [pm_push, pm_atL, e2, Option.map_some]
      rfl
    · cases hz
  · split at hz
    · rename_i x e
      cases hz
      have e2 : pm_at L _ = some (.ref x) := hL _ _ e
      refine ⟨L, ?_, hL⟩
      unfold pm_step
      rw [hf]
      simp only [pm_push, pm_atR, e2, Option.map_some]
      rfl
    · cases hz
  · split at hz
    · rename_i x e
      cases hz
      have e2 : pm_at L _ = some (.ref x) := hL _ _ e
      refine ⟨L, ?_, hL⟩
      unfold pm_step
      rw [hf]
      simp only [pm_push, pm_atR, e2, Option.map_some]
      rfl
    · cases hz
  · split at hz
    · obtain ⟨hg, he⟩ := pm_bif hz
      cases he
      refine ⟨_, ?_, zlr_st1 hL _ _⟩
      unfold pm_step
      rw [hf]
      simp only [pm_push, pm_ari, pm_br, pm_sto, List.map_cons, zV, hg, cond_true]
      rfl
    · cases hz
  · split at hz
    · obtain ⟨hg, he⟩ := pm_bif hz
      cases he
      refine ⟨_, ?_, zlr_st1 hL _ _⟩
      unfold pm_step
      rw [hf]
      simp only [pm_push, pm_ari, pm_br, pm_sto, List.map_cons, zV, hg, cond_true]
      rfl
    · cases hz
  · split at hz
    · obtain ⟨hg, he⟩ := pm_bif hz
      cases he
      refine ⟨_, ?_, zlr_st1 hL _ _⟩
      unfold pm_step
      rw [hf]
      simp only [pm_push, pm_ari, pm_br, pm_sto, List.map_cons, zV, hg, cond_true]
      rfl
    · cases hz
  · split at hz
    · obtain ⟨hg, he⟩ := pm_bif hz
      cases he
      refine ⟨_, ?_, zlr_st1 hL _ _⟩
      unfold pm_step
      rw [hf]
      simp only [pm_push, pm_ari, pm_br, pm_sto, List.map_cons, zV, hg, cond_true]
      rfl
    · cases hz
  · split at hz
    · obtain ⟨hg, he⟩ := pm_bif hz
      cases he
      refine ⟨_, ?_, zlr_st2 hL _ _⟩
      unfold pm_step
      rw [hf]
      simp only [pm_push, pm_ari, pm_br, pm_sto, List.map_cons, zV, hg, cond_true]
      rfl
    · cases hz
  · split at hz
    · obtain ⟨hg, he⟩ := pm_bif hz
      cases he
      refine ⟨_, ?_, zlr_st2 hL _ _⟩
      unfold pm_step
      rw [hf]
      simp only [pm_push, pm_ari, pm_br, pm_sto, List.map_cons, zV, hg, cond_true]
      rfl
    · cases hz
  · split at hz
    · rename_i k n _ x e
      obtain ⟨hg, he⟩ := pm_bif hz
      cases he
      have e2 : pm_at L _ = some (.int (Int32.ofInt x)) := hL _ _ e
      refine ⟨_, ?_, zlr_st1 hL _ _⟩
      unfold pm_step
      rw [hf]
      simp only [pm_push, pm_ari, pm_br, pm_sto, pm_atI, e2, hg, cond_true]
      show some (Sum.inl (pc + 3, pm_st1 L k (.int (Int32.ofInt x + Int32.ofInt n)), S.map zV, h)) = some (Sum.inl (pc + 3, pm_st1 L k (.int (Int32.ofInt (x + n))), S.map zV, h))
      rw [Int32.ofInt_add]
    · cases hz
  · split at hz
    · rename_i y x S1
      cases hz
      refine ⟨L, ?_, hL⟩
      unfold pm_step
      rw [hf]
      show some (Sum.inl (pc + 1, L, Value.int (Int32.ofInt x + Int32.ofInt y) :: S1.map zV, h)) = some (Sum.inl (pc + 1, L, Value.int (Int32.ofInt (x + y)) :: S1.map zV, h))
      rw [Int32.ofInt_add]
    · cases hz
  · split at hz
    · rename_i y x S1
      cases hz
      refine ⟨L, ?_, hL⟩
      unfold pm_step
      rw [hf]
      show some (Sum.inl (pc + 1, L, Value.int (Int32.ofInt x - Int32.ofInt y) :: S1.map zV, h)) = some (Sum.inl (pc + 1, L, Value.int (Int32.ofInt (x - y)) :: S1.map zV, h))
      rw [Int32.ofInt_sub]
    · cases hz
  · split at hz
    · rename_i y x S1
      cases hz
      refine ⟨L, ?_, hL⟩
      unfold pm_step
      rw [hf]
      show some (Sum.inl (pc + 1, L, Value.int (Int32.ofInt x * Int32.ofInt y) :: S1.map zV, h)) = some (Sum.inl (pc + 1, L, Value.int (Int32.ofInt (x * y)) :: S1.map zV, h))
      rw [Int32.ofInt_mul]
    · cases hz
  · split at hz
    · rename_i x S1
      cases hz
      refine ⟨L, ?_, hL⟩
      unfold pm_step
      rw [hf]
      show some (Sum.inl (pc + 1, L, Value.int (-Int32.ofInt x) :: S1.map zV, h)) = some (Sum.inl (pc + 1, L, Value.int (Int32.ofInt (-x)) :: S1.map zV, h))
      rw [Int32.ofInt_neg]
    · cases hz
  · split at hz
    · rename_i y x S1
      cases hz
      refine ⟨L, ?_, hL⟩
      unfold pm_step
      rw [hf]
      show some (Sum.inl (pc + 1, L, Value.long (Int64.ofInt x + Int64.ofInt y) :: S1.map zV, h)) = some (Sum.inl (pc + 1, L, Value.long (Int64.ofInt (x + y)) :: S1.map zV, h))
      rw [Int64.ofInt_add]
    · cases hz
  · split at hz
    · rename_i y x S1
      cases hz
      refine ⟨L, ?_, hL⟩
      unfold pm_step
      rw [hf]
      show some (Sum.inl (pc + 1, L, Value.long (Int64.ofInt x * Int64.ofInt y) :: S1.map zV, h)) = some (Sum.inl (pc + 1, L, Value.long (Int64.ofInt (x * y)) :: S1.map zV, h))
      rw [Int64.ofInt_mul]
    · cases hz
  · split at hz
    · cases hz; exact ⟨L, by unfold pm_step; rw [hf]; rfl, hL⟩
    · cases hz; exact ⟨L, by unfold pm_step; rw [hf]; rfl, hL⟩
    · cases hz
  · split at hz
    · cases hz; exact ⟨L, by unfold pm_step; rw [hf]; rfl, hL⟩
    · cases hz; exact ⟨L, by unfold pm_step; rw [hf]; rfl, hL⟩
    · cases hz
  · split at hz
    · cases hz; exact ⟨L, by unfold pm_step; rw [hf]; rfl, hL⟩
    · cases hz
  · split at hz
    · cases hz; exact ⟨L, by unfold pm_step; rw [hf]; rfl, hL⟩
    · cases hz; exact ⟨L, by unfold pm_step; rw [hf]; rfl, hL⟩
    · cases hz
  · rename_i off
    obtain ⟨t, ht, he⟩ := Option.map_eq_some_iff.mp hz
    cases he
    refine ⟨L, ?_, hL⟩
    unfold pm_step
    rw [hf]
    simp only [pm_push, pm_ari, pm_br, ht, Option.map_some]
  · cases hz
section ZH
variable {d mi : Nat} {md : Bool} {P : Nat → pm_L → List Value → pm_H → Prop} {R : Option Value → pm_H → Prop} {pc : Nat} {L : pm_L} {h : pm_H}
theorem zh_I (hS : zS d mi md pc P R) (hok : zok md mi pc) {S0 : List Value} {x : Int32} {S2 : List zv} {k : Nat → List zv → Prop} (hst : pm_step pm_swA mi pc L S0 h = some (.inl (pc + 1, L, .int x :: S2.map zV, h))) (H : zaI (fun c => k (pc + 1) (.inl c :: S2))) (hk : ∀ pc' S', k pc' S' → P pc' L (S'.map zV) h) : P pc L S0 h := by
  obtain ⟨c, rfl, c1, c2⟩ := zi_rng x
  exact hS.1 _ _ _ _ _ _ _ hok hst (hk _ _ (H c c1 c2))
theorem zh_L (hS : zS d mi md pc P R) (hok : zok md mi pc) {S0 : List Value} {x : Int64} {S2 : List zv} {k : Nat → List zv → Prop} (hst : pm_step pm_swA mi pc L S0 h = some (.inl (pc + 1, L, .long x :: S2.map zV, h))) (H : zaL (fun c => k (pc + 1) (.inr (.inl c) :: S2))) (hk : ∀ pc' S', k pc' S' → P pc' L (S'.map zV) h) : P pc L S0 h := by
  obtain ⟨c, rfl, c1, c2⟩ := zl_rng x
  exact hS.1 _ _ _ _ _ _ _ hok hst (hk _ _ (H c c1 c2))
theorem zs_if {c : ClassFile.Cond} {off : Int} {t : Nat} {x : Int32} {S2 : List Value} (hf : pm_fd (pm_code mi) pc = some (.ifCond c off)) (hj : pm_jmp pc off = some t) : pm_step pm_swA mi pc L (.int x :: S2) h = some (.inl (bif pm_c0 c x then t else pc + 3, L, S2, h)) := by
  unfold pm_step
  rw [hf]
  simp only [pm_push, pm_ari, pm_br, pm_if, hj]
theorem zs_ic {c : ClassFile.Cond} {off : Int} {t : Nat} {x y : Int32} {S2 : List Value} (hf : pm_fd (pm_code mi) pc = some (.if_icmp c off)) (hj : pm_jmp pc off = some t) : pm_step pm_swA mi pc L (.int y :: .int x :: S2) h = some (.inl (bif pm_c2 c x y then t else pc + 3, L, S2, h)) := by
  unfold pm_step
  rw [hf]
  simp only [pm_push, pm_ari, pm_br, pm_if, hj]
theorem zhv_ok (hS : zS d mi md pc P R) {i : Instr} {S : List zv} {k : Nat → List zv → Prop} (hf : pm_fd (pm_code mi) pc = some i) (H : zhv i pc S k) (hk : ∀ pc' S', k pc' S' → P pc' L (S'.map zV) h) : P pc L (S.map zV) h := by
  unfold zhv at H
  split at H
  · split at H
    · exact zh_I hS (fun _ => by unfold pt_stop; rw [hf]) (by unfold pm_step; rw [hf]; rfl) H hk
    · exact H.elim
  · split at H
    · exact zh_I hS (fun _ => by unfold pt_stop; rw [hf]) (by unfold pm_step; rw [hf]; rfl) H hk
    · exact H.elim
  · split at H
    · exact zh_I hS (fun _ => by unfold pt_stop; rw [hf]) (by unfold pm_step; rw [hf]; rfl) H hk
    · exact H.elim
  · split at H
    · exact zh_I hS (fun _ => by unfold pt_stop; rw [hf]) (by unfold pm_step; rw [hf]; rfl) H hk
    · exact H.elim
  · split at H
    · exact zh_I hS (fun _ => by unfold pt_stop; rw [hf]) (by unfold pm_step; rw [hf]; rfl) H hk
    · exact H.elim
  · split at H
    · exact zh_I hS (fun _ => by unfold pt_stop; rw [hf]) (by unfold pm_step; rw [hf]; rfl) H hk
    · exact H.elim
  · split at H
    · exact zh_I hS (fun _ => by unfold pt_stop; rw [hf]) (by unfold pm_step; rw [hf]; rfl) H hk
    · exact H.elim
  · split at H
    · exact zh_I hS (fun _ => by unfold pt_stop; rw [hf]) (by unfold pm_step; rw [hf]; rfl) H hk
    · exact H.elim
  · split at H
    · exact zh_I hS (fun _ => by unfold pt_stop; rw [hf]) (by unfold pm_step; rw [hf]; rfl) H hk
    · exact H.elim
  · split at H
    · rename_i y x S1
      obtain ⟨⟨y1, y2, y3⟩, H⟩ := H
      have hne : ¬ Int32.ofInt y = 0 := by rw [zi_00, zi_eq ⟨y1, y2⟩ zi_z]; exact y3
      refine zh_I (x := Int32.ofInt x / Int32.ofInt y) hS (fun _ => by unfold pt_stop; rw [hf]) ?_ H hk
      unfold pm_step
      rw [hf]
      simp only [pm_push, pm_ari, List.map_cons, zV, if_neg hne]
      rfl
    · exact H.elim
  · split at H
    · rename_i y x S1
      obtain ⟨⟨y1, y2, y3⟩, H⟩ := H
      have hne : ¬ Int32.ofInt y = 0 := by rw [zi_00, zi_eq ⟨y1, y2⟩ zi_z]; exact y3
      refine zh_I (x := Int32.ofInt x - Int32.ofInt x / Int32.ofInt y * Int32.ofInt y) hS (fun _ => by unfold pt_stop; rw [hf]) ?_ H hk
      unfold pm_step
      rw [hf]
      simp only [pm_push, pm_ari, List.map_cons, zV, if_neg hne]
      rfl
    · exact H.elim
  · split at H
    · exact zh_I hS (fun _ => by unfold pt_stop; rw [hf]) (by unfold pm_step; rw [hf]; rfl) H hk
    · exact H.elim
  · split at H
    · exact zh_I hS (fun _ => by unfold pt_stop; rw [hf]) (by unfold pm_step; rw [hf]; rfl) H hk
    · exact H.elim
  · split at H
    · exact zh_L hS (fun _ => by unfold pt_stop; rw [hf]) (by unfold pm_step; rw [hf]; rfl) H hk
    · exact H.elim
  · split at H
    · exact zh_L hS (fun _ => by unfold pt_stop; rw [hf]) (by unfold pm_step; rw [hf]; rfl) H hk
    · exact H.elim
  · split at H
    · exact zh_L hS (fun _ => by unfold pt_stop; rw [hf]) (by unfold pm_step; rw [hf]; rfl) H hk
    · exact H.elim
  · split at H
    · exact zh_L hS (fun _ => by unfold pt_stop; rw [hf]) (by unfold pm_step; rw [hf]; rfl) H hk
    · exact H.elim
  · split at H
    · exact zh_L hS (fun _ => by unfold pt_stop; rw [hf]) (by unfold pm_step; rw [hf]; rfl) H hk
    · exact H.elim
  · split at H
    · rename_i c off _ x S1
      unfold zjmp at H
      split at H
      · rename_i t ht
        refine hS.1 _ _ _ _ _ _ _ (fun _ => by unfold pt_stop; rw [hf]) (zs_if hf ht) ?_
        cases pm_c0 c (Int32.ofInt x) with
        | true => exact hk _ _ H.1
        | false => exact hk _ _ H.2
      · exact H.elim
    · exact H.elim
  · split at H
    · rename_i c off _ y x S1
      unfold zjmp at H
      split at H
      · rename_i t ht
        refine hS.1 _ _ _ _ _ _ _ (fun _ => by unfold pt_stop; rw [hf]) (zs_ic hf ht) ?_
        cases pm_c2 c (Int32.ofInt x) (Int32.ofInt y) with
        | true => exact hk _ _ H.1
        | false => exact hk _ _ H.2
      · exact H.elim
    · exact H.elim
  · exact H.elim
end ZH
