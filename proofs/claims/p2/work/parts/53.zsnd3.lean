/-! The calculus is sound: steps that ask for something, and the whole -/
section ZB
variable {d mi : Nat} {md : Bool} {P : Nat → pm_L → List Value → pm_H → Prop} {R : Option Value → pm_H → Prop} {pc : Nat} {L : pm_L} {h : zh}
theorem ztb_at {x : Int} {pc : Nat} {f : Nat → Prop} : ∀ (l : List Int) (v : Int) (j : Nat) (o : Int), ztb x pc f l v → l[j]? = some o → x = v + (j : Int) → zjmp pc o f := by
  intro l
  induction l with
  | nil => intro v j o _ h; cases h
  | cons a l ih =>
    intro v j o H hj hx
    cases j with
    | zero =>
      have : a = o := Option.some.inj hj
      subst this
      exact H.1 (by simpa using hx)
    | succ j => exact ih (v + 1) j o H.2 hj (by omega)
theorem zlk_at {x : Int} {pc : Nat} {f : Nat → Prop} {dd : Int} : ∀ (l : List (Int × Int)), zlk x pc f l → (zno x l → zjmp pc dd f) → zjmp pc (Op.lookupswitch.offset l dd x) f := by
  intro l
  induction l with
  | nil => intro _ h; exact h trivial
  | cons q l ih =>
    intro H hd
    obtain ⟨a, o⟩ := q
    rw [Op.lookupswitch.offset_cons]
    by_cases e : a = x
    · rw [if_pos e]
      exact H.1 e.symm
    · rw [if_neg e]
      exact ih H.2 (fun z => hd ⟨fun w => e w.symm, z⟩)
theorem zs_call {i : Instr} {S0 S' : List Value} {mj : Nat} {as : List Value} {h : pm_H} (hi : (∃ k, i = .invokevirtual k) ∨ ∃ k, i = .invokestatic k) (hf : pm_fd (pm_code mi) pc = some i) (hc : pm_call i pm_swA (pm_ow mi) S0 = some (mj, as, S')) : pm_step pm_swA mi pc L S0 h = some (.inr (.inr (mj, as, S'))) := by
  unfold pm_step
  rw [hf]
  rcases hi with ⟨k, rfl⟩ | ⟨k, rfl⟩
  · simp only [pm_push, pm_ari, pm_br, pm_sto, pm_read, pm_rd0, pm_cst, pm_write, pm_ret, hc]
  · simp only [pm_push, pm_ari, pm_br, pm_sto, pm_read, pm_rd0, pm_cst, pm_write, pm_ret, hc]
theorem zcl_ok (hS : zS d mi md pc P R) (hok : zok md mi pc) {mj : Nat} {as S2 : List zv} {S0 : List Value} {k : List zv → zh → Prop} (hst : pm_step pm_swA mi pc L S0 (zc h) = some (.inr (.inr (mj, as.map zV, S2.map zV)))) (hp : Nat.beq mj 167 = false) (H : zcl d mj as h k) (hk : ∀ v h', k v h' → P (pc + 3) L (v.map zV ++ S2.map zV) (zc h')) : P pc L S0 (zc h) := by
  obtain ⟨hd, H⟩ := H
  refine hS.2.2.1 _ _ _ _ _ _ hok hst (by unfold pm_prim; rw [hp]; rfl) hd ?_
  split at H
  · refine px_imp H ?_
    rintro v h1 ⟨A, B, Y, K, T, rfl, rfl, q⟩
    exact hk _ _ q
  · refine px_imp H ?_
    rintro v h1 ⟨n, A, B, Y, K, T, rfl, rfl, q⟩
    exact hk _ _ q
  · refine px_imp H ?_
    rintro v h1 ⟨n, A, B, Y, K, T, rfl, rfl, q⟩
    exact hk _ _ q
theorem zblt_f {a : Nat} (h : 1000 ≤ a) : Nat.blt a 1000 = false := by
  cases e : Nat.blt a 1000 with
  | false => rfl
  | true => exact absurd (pm_blt e) (by omega)
set_option maxHeartbeats 4000000 in
theorem zb_ok (hS : zS d mi md pc P R) {Q : Option zv → zh → Prop} {lf : Nat → zM → List zv → zh → Prop} {i : Instr} {M : zM} {S : List zv} {k : Nat → zM → List zv → zh → Prop} (hf : pm_fd (pm_code mi) pc = some i) (hL : zlr M L) (H : zb d mi md Q lf i pc M S h k)
    (hlf : ∀ pc M S h, lf pc M S h → ∀ L, zlr M L → P pc L (S.map zV) (zc h)) (hQ : ∀ w h, Q w h → R (w.map zV) (zc h)) (hk : ∀ pc' M' S' h', k pc' M' S' h' → ∀ L', zlr M' L' → P pc' L' (S'.map zV) (zc h')) : P pc L (S.map zV) (zc h) := by
  unfold zb at H
  split at H
  · -- ifCond
    split at H
    · rename_i c off _ x S1
      unfold zjmp at H
      split at H
      · rename_i t ht
        obtain ⟨hr, H1, H2⟩ := H
        refine hS.1 _ _ _ _ _ _ _ (fun _ => by unfold pt_stop; rw [hf]) (zs_if hf ht) ?_
        rcases zc0_cases (c := c) hr with ⟨q1, q2⟩ | ⟨q1, q2⟩
        · rw [q1]; exact hk _ _ _ _ (H1 q2) L hL
        · rw [q1]; exact hk _ _ _ _ (H2 q2) L hL
      · exact H.elim
    · exact H.elim
  · -- if_icmp
    split at H
    · rename_i c off _ y x S1
      unfold zjmp at H
      split at H
      · rename_i t ht
        obtain ⟨hr, hr2, H1, H2⟩ := H
        refine hS.1 _ _ _ _ _ _ _ (fun _ => by unfold pt_stop; rw [hf]) (zs_ic hf ht) ?_
        rcases zc2_cases (c := c) hr hr2 with ⟨q1, q2⟩ | ⟨q1, q2⟩
        · rw [q1]; exact hk _ _ _ _ (H1 q2) L hL
        · rw [q1]; exact hk _ _ _ _ (H2 q2) L hL
      · exact H.elim
    · exact H.elim
  · -- if_acmp
    split at H
    · rename_i c off _ y x S1
      unfold zjmp at H
      split at H
      · rename_i t ht
        obtain ⟨⟨x1, x2⟩, ⟨y1, y2⟩, H⟩ := H
        have kx : pm_kc x = true := Bool.and_eq_true_iff.mpr ⟨Nat.ble_eq_true_of_le x1, Nat.ble_eq_true_of_le x2⟩
        have ky : pm_kc y = true := Bool.and_eq_true_iff.mpr ⟨Nat.ble_eq_true_of_le y1, Nat.ble_eq_true_of_le y2⟩
        cases c with
        | eq =>
          have hst : pm_step pm_swA mi pc L (List.map zV (.inr (.inr y) :: .inr (.inr x) :: S1)) (zc h) = some (.inl (bif Nat.beq x y then t else pc + 3, L, S1.map zV, zc h)) := by
            unfold pm_step
            rw [hf]
            simp only [pm_push, pm_ari, pm_br, pm_if, List.map_cons, zV, kx, ky, Bool.and_self, cond_true, ht]
          refine hS.1 _ _ _ _ _ _ _ (fun _ => by unfold pt_stop; rw [hf]) hst ?_
          by_cases e : x = y
          · subst e
            rw [Nat.beq_refl]
            exact hk _ _ _ _ (H.1 rfl) L hL
          · rw [pg_nb (fun z => e z.symm)]
            exact hk _ _ _ _ (H.2 e) L hL
        | ne =>
          have hst : pm_step pm_swA mi pc L (List.map zV (.inr (.inr y) :: .inr (.inr x) :: S1)) (zc h) = some (.inl (bif !Nat.beq x y then t else pc + 3, L, S1.map zV, zc h)) := by
            unfold pm_step
            rw [hf]
            simp only [pm_push, pm_ari, pm_br, pm_if, List.map_cons, zV, kx, ky, Bool.and_self, cond_true, ht]
          refine hS.1 _ _ _ _ _ _ _ (fun _ => by unfold pt_stop; rw [hf]) hst ?_
          by_cases e : x = y
          · subst e
            rw [Nat.beq_refl]
            exact hk _ _ _ _ (H.2 rfl) L hL
          · rw [pg_nb (fun z => e z.symm)]
            exact hk _ _ _ _ (H.1 e) L hL
      · exact H.elim
    · exact H.elim
  · -- tableswitch
    split at H
    · rename_i dd lo hi offs _ x S1
      obtain ⟨⟨r1, r2⟩, H1, H2⟩ := H
      have hx := zi_to r1 r2
      cases hg : decide (lo + (offs.toList.length : Int) = hi + 1) with
      | false => rw [hg] at H2; exact H2.elim
      | true =>
      rw [hg] at H2
      have hg := of_decide_eq_true hg
      by_cases hv : x < lo ∨ hi < x
      · have H1 := H1 hv
        unfold zjmp at H1
        split at H1
        · rename_i t ht
          have hst : pm_step pm_swA mi pc L (List.map zV (.inl x :: S1)) (zc h) = some (.inl (t, L, S1.map zV, zc h)) := by
            unfold pm_step
            rw [hf]
            simp only [pm_push, pm_ari, pm_br, List.map_cons, zV, hx, if_pos hv, ht, Option.map_some]
          exact hS.1 _ _ _ _ _ _ _ (fun _ => by unfold pt_stop; rw [hf]) hst (hk _ _ _ _ H1 L hL)
        · exact H1.elim
      · have hlt : (x - lo).toNat < offs.toList.length := by omega
        have hat : offs.toList[(x - lo).toNat]? = some (offs.toList[(x - lo).toNat]) := List.getElem?_eq_getElem hlt
        have H3 := ztb_at _ _ _ _ H2 hat (by omega)
        unfold zjmp at H3
        split at H3
        · rename_i t ht
          have hst : pm_step pm_swA mi pc L (List.map zV (.inl x :: S1)) (zc h) = some (.inl (t, L, S1.map zV, zc h)) := by
            unfold pm_step
            rw [hf]
            have hat2 : offs[(x - lo).toNat]? = some (offs.toList[(x - lo).toNat]) := by rw [← Array.getElem?_toList]; exact hat
            simp only [pm_push, pm_ari, pm_br, List.map_cons, zV, hx, if_neg hv, hat2, ht, Option.map_some]
          exact hS.1 _ _ _ _ _ _ _ (fun _ => by unfold pt_stop; rw [hf]) hst (hk _ _ _ _ H3 L hL)
        · exact H3.elim
    · exact H.elim
  · -- lookupswitch
    split at H
    · rename_i dd ps _ x S1
      cases hg : (ps.toList.zip (ps.toList.drop 1)).all (fun (a, next) => a.1 < next.1) with
      | false => rw [hg] at H; exact H.elim
      | true =>
        rw [hg] at H
        obtain ⟨⟨r1, r2⟩, H1, H2⟩ := H
        have hx := zi_to r1 r2
        have H3 := zlk_at _ H1 H2
        unfold zjmp at H3
        split at H3
        · rename_i t ht
          have hst : pm_step pm_swA mi pc L (List.map zV (.inl x :: S1)) (zc h) = some (.inl (t, L, S1.map zV, zc h)) := by
            unfold pm_step
            rw [hf]
            simp only [pm_push, pm_ari, pm_br, List.map_cons, zV, hx, hg, cond_true, ht, Option.map_some]
          exact hS.1 _ _ _ _ _ _ _ (fun _ => by unfold pt_stop; rw [hf]) hst (hk _ _ _ _ H3 L hL)
        · exact H3.elim
    · exact H.elim
  · -- i2l
    split at H
    · rename_i x S1
      obtain ⟨⟨r1, r2⟩, H⟩ := H
      have e : (Int32.ofInt x).toInt64 = Int64.ofInt x := by
        apply Int64.toInt_inj.mp
        rw [Int32.toInt_toInt64, zi_to r1 r2, zl_to (by omega) (by omega)]
      refine hS.1 _ _ _ (pc + 1) L (.long (Int64.ofInt x) :: S1.map zV) (zc h) (fun _ => by unfold pt_stop; rw [hf]) ?_ (hk _ _ _ _ H L hL)
      unfold pm_step
      rw [hf]
      show some (Sum.inl (pc + 1, L, Value.long (Int32.ofInt x).toInt64 :: S1.map zV, zc h)) = _
      rw [e]
    · exact H.elim
  · -- l2i
    split at H
    · rename_i x S1
      refine hS.1 _ _ _ (pc + 1) L (.int (Int32.ofInt x) :: S1.map zV) (zc h) (fun _ => by unfold pt_stop; rw [hf]) ?_ (hk _ _ _ _ H L hL)
      unfold pm_step
      rw [hf]
      show some (Sum.inl (pc + 1, L, Value.int (Int64.ofInt x).toInt32 :: S1.map zV, zc h)) = _
      rw [Int64.toInt32_ofInt]
    · exact H.elim
  · -- lcmp
    split at H
    · rename_i y x S1
      obtain ⟨r1, r2, H1, H2, H3⟩ := H
      have hst : pm_step pm_swA mi pc L (List.map zV (.inr (.inl y) :: .inr (.inl x) :: S1)) (zc h) = some (.inl (pc + 1, L, .int (lg_cmp (Int64.ofInt x) (Int64.ofInt y)) :: S1.map zV, zc h)) := by
        unfold pm_step
        rw [hf]
        rfl
      refine hS.1 _ _ _ _ _ _ _ (fun _ => by unfold pt_stop; rw [hf]) hst ?_
      rcases zlc_cases r1 r2 with ⟨q1, q2⟩ | ⟨q1, q2⟩ | ⟨q1, q2⟩
      · rw [q1]; exact hk _ _ _ _ (H1 q2) L hL
      · rw [q1]; exact hk _ _ _ _ (H2 q2) L hL
      · rw [q1]; exact hk _ _ _ _ (H3 q2) L hL
    · exact H.elim
  · -- getfield
    split at H
    · rename_i idx _ a S1
      split at H
      · rename_i hkf
        obtain ⟨⟨a1, a2⟩, H⟩ := H
        obtain ⟨z1, z2, z3⟩ := zkv_ok a1 a2
        refine hS.1 _ _ _ (pc + 3) L (.int (Int32.ofInt (zlev a)) :: S1.map zV) (zc h) (fun _ => by unfold pt_stop; rw [hf]) ?_ (hk _ _ _ _ H L hL)
        unfold pm_step
        rw [hf]
        simp only [pm_push, pm_ari, pm_br, pm_sto, pm_read, pm_rd0, List.map_cons, zV, zblt_f a1, cond_false, hkf, z1, Option.map_some]
        rfl
      · rename_i hkf
        obtain ⟨⟨a1, a2⟩, H⟩ := H
        obtain ⟨z1, z2, z3⟩ := zkv_ok a1 a2
        refine hS.1 _ _ _ (pc + 3) L (.int (Int32.ofInt (zop a)) :: S1.map zV) (zc h) (fun _ => by unfold pt_stop; rw [hf]) ?_ (hk _ _ _ _ H L hL)
        unfold pm_step
        rw [hf]
        simp only [pm_push, pm_ari, pm_br, pm_sto, pm_read, pm_rd0, List.map_cons, zV, zblt_f a1, cond_false, hkf, z2, Option.map_some]
        rfl
      · rename_i hkf
        obtain ⟨⟨a1, a2⟩, H⟩ := H
        obtain ⟨z1, z2, z3⟩ := zkv_ok a1 a2
        refine hS.1 _ _ _ (pc + 3) L (.ref (a + 2000) :: S1.map zV) (zc h) (fun _ => by unfold pt_stop; rw [hf]) ?_ (hk _ _ _ _ H L hL)
        unfold pm_step
        rw [hf]
        simp only [pm_push, pm_ari, pm_br, pm_sto, pm_read, pm_rd0, List.map_cons, zV, zblt_f a1, cond_false, hkf, z3, Option.map_some]
        rfl
      · exact H.elim
      · split at H
        · rename_i ci kk hgf
          cases hg : (Nat.blt a 1000 && pm_isO pm_swA a ci) with
          | false => rw [hg] at H; exact H.elim
          | true =>
            rw [hg] at H
            obtain ⟨g1, g2⟩ := Bool.and_eq_true_iff.mp hg
            dsimp only [cond] at H
            split at H
            · rename_i ty hty
              split at H
              · rename_i hc
                refine hS.1 _ _ _ (pc + 3) L (.int (Int32.ofInt (zrd h a kk)) :: S1.map zV) (zc h) (fun _ => by unfold pt_stop; rw [hf]) ?_ (hk _ _ _ _ H L hL)
                unfold pm_step
                rw [hf]
                simp only [pm_push, pm_ari, pm_br, pm_sto, pm_read, pm_rd0, List.map_cons, zV, g1, cond_true, hgf, g2, hty, pm_get, hc, Option.map_some]
                rfl
              · rename_i hc
                refine hS.1 _ _ _ (pc + 3) L (.long (Int64.ofInt (h.2.2.1 a kk)) :: S1.map zV) (zc h) (fun _ => by unfold pt_stop; rw [hf]) ?_ (hk _ _ _ _ H L hL)
                unfold pm_step
                rw [hf]
                simp only [pm_push, pm_ari, pm_br, pm_sto, pm_read, pm_rd0, List.map_cons, zV, g1, cond_true, hgf, g2, hty, pm_get, hc, Option.map_some]
                rfl
              · rename_i hc0 hc1
                split at H
                · rename_i r hr
                  have hc : pm_cat ty = 2 := by
                    clear hty
                    cases ty <;> first | rfl | exact (hc0 rfl).elim | exact (hc1 rfl).elim
                  have hr2 : (zc h).2.2 a kk = some r := hr
                  refine hS.1 _ _ _ (pc + 3) L (.ref r :: S1.map zV) (zc h) (fun _ => by unfold pt_stop; rw [hf]) ?_ (hk _ _ _ _ H L hL)
                  unfold pm_step
                  rw [hf]
                  simp only [pm_push, pm_ari, pm_br, pm_sto, pm_read, pm_rd0, List.map_cons, zV, g1, cond_true, hgf, g2, hty, pm_get, hc, hr2, Option.map_some]
                  rfl
                · exact H.elim
            · exact H.elim
        · exact H.elim
    · exact H.elim
  · -- getstatic
    split at H
    · rename_i idx _ j hj
      refine hS.1 _ _ _ (pc + 3) L (.ref (pm_kst.getD j ("", "", "", 0)).2.2.2 :: S.map zV) (zc h) (fun _ => by unfold pt_stop; rw [hf]) ?_ (hk _ _ _ _ H L hL)
      unfold pm_step
      rw [hf]
      simp only [pm_push, pm_ari, pm_br, pm_sto, pm_read, pm_rd0, hj, Option.map_some]
      rfl
    · rename_i idx _ hj
      cases hn : pm_isn (pm_ow mi) idx with
      | false =>
        rw [hn] at H
        exact H.elim
      | true =>
        rw [hn] at H
        refine hS.1 _ _ _ (pc + 3) L (.ref 2000 :: S.map zV) (zc h) (fun _ => by unfold pt_stop; rw [hf]) ?_ (hk _ _ _ _ H L hL)
        unfold pm_step
        rw [hf]
        simp only [pm_push, pm_ari, pm_br, pm_sto, pm_read, pm_rd0, pm_cst, hj, hn, Option.map_none, cond_true]
        rfl
  · -- ldc2_w
    split at H
    · rename_i idx _ v hv
      refine hS.1 _ _ _ (pc + 3) L (.long (Int64.ofInt v.toInt) :: S.map zV) (zc h) (fun _ => by unfold pt_stop; rw [hf]) ?_ (hk _ _ _ _ H L hL)
      unfold pm_step
      rw [hf, Int64.ofInt_toInt]
      simp only [pm_push, pm_ari, pm_br, pm_sto, pm_read, pm_rd0, hv, Option.map_some]
      rfl
    · exact H.elim
  · -- arraylength
    split at H
    · rename_i _ a S1
      cases ha : Nat.beq a 2000 with
      | true =>
        rw [ha] at H
        have ha := Nat.eq_of_beq_eq_true ha
        subst ha
        refine hS.1 _ _ _ (pc + 1) L (.int (Int32.ofInt 39) :: S1.map zV) (zc h) (fun _ => by unfold pt_stop; rw [hf]) ?_ (hk _ _ _ _ H L hL)
        unfold pm_step
        rw [hf]
        rfl
      | false =>
        rw [ha] at H
        dsimp only [cond] at H
        cases hg : (Nat.blt a pm_swA.length && Nat.blt (pm_sh pm_swA a).1 6) with
        | false => rw [hg] at H; exact H.elim
        | true =>
          rw [hg] at H
          refine hS.1 _ _ _ (pc + 1) L (.int (Int32.ofInt ((pm_sh pm_swA a).2 : Int)) :: S1.map zV) (zc h) (fun _ => by unfold pt_stop; rw [hf]) ?_ (hk _ _ _ _ H L hL)
          unfold pm_step
          rw [hf, Int32.ofInt_eq_ofNat]
          simp only [pm_push, pm_ari, pm_br, pm_sto, pm_read, pm_rd0, List.map_cons, zV, hg, cond_true]
          rfl
    · exact H.elim
  · -- iaload
    split at H
    · rename_i _ j a S1
      cases hg : pm_isA pm_swA a 1 with
      | false => rw [hg] at H; exact H.elim
      | true =>
        rw [hg] at H
        obtain ⟨hj, H⟩ := H
        obtain ⟨j1, j2⟩ := zinb (zlen a) hj
        refine hS.1 _ _ _ (pc + 1) L (.int (Int32.ofInt (zrd h a j.toNat)) :: S1.map zV) (zc h) (fun _ => by unfold pt_stop; rw [hf]) ?_ (hk _ _ _ _ H L hL)
        unfold pm_step
        rw [hf]
        simp only [pm_push, pm_ari, pm_br, pm_sto, pm_read, pm_rd0, List.map_cons, zV, hg, j1, j2, Bool.and_self, cond_true]
        rfl
    · exact H.elim
  · -- caload
    split at H
    · rename_i _ j a S1
      cases hg : pm_isA pm_swA a 2 with
      | false => rw [hg] at H; exact H.elim
      | true =>
        rw [hg] at H
        obtain ⟨hj, H⟩ := H
        obtain ⟨j1, j2⟩ := zinb (zlen a) hj
        refine hS.1 _ _ _ (pc + 1) L (.int (Int32.ofInt (zrd h a j.toNat)) :: S1.map zV) (zc h) (fun _ => by unfold pt_stop; rw [hf]) ?_ (hk _ _ _ _ H L hL)
        unfold pm_step
        rw [hf]
        simp only [pm_push, pm_ari, pm_br, pm_sto, pm_read, pm_rd0, List.map_cons, zV, hg, j1, j2, Bool.and_self, cond_true]
        rfl
    · exact H.elim
  · -- baload
    split at H
    · rename_i _ j a S1
      cases hg : pm_isA pm_swA a 3 with
      | false => rw [hg] at H; exact H.elim
      | true =>
        rw [hg] at H
        obtain ⟨hj, H⟩ := H
        obtain ⟨j1, j2⟩ := zinb (zlen a) hj
        refine hS.1 _ _ _ (pc + 1) L (.int (Int32.ofInt (zrd h a j.toNat)) :: S1.map zV) (zc h) (fun _ => by unfold pt_stop; rw [hf]) ?_ (hk _ _ _ _ H L hL)
        unfold pm_step
        rw [hf]
        simp only [pm_push, pm_ari, pm_br, pm_sto, pm_read, pm_rd0, List.map_cons, zV, hg, j1, j2, Bool.and_self, cond_true]
        rfl
    · exact H.elim
  · -- aaload
    split at H
    · rename_i _ j a S1
      cases ha : Nat.beq a 2000 with
      | true =>
        rw [ha] at H
        have ha := Nat.eq_of_beq_eq_true ha
        subst ha
        obtain ⟨hj, H⟩ := H
        obtain ⟨j1, j2⟩ := zinb (n := 39) (by omega) hj
        refine hS.1 _ _ _ (pc + 1) L (.ref (1000 + j.toNat) :: S1.map zV) (zc h) (fun _ => by unfold pt_stop; rw [hf]) ?_ (hk _ _ _ _ H L hL)
        unfold pm_step
        rw [hf]
        have e1 : pm_isA pm_swA 2000 5 = false := rfl
        simp only [pm_push, pm_ari, pm_br, pm_sto, pm_read, pm_rd0, pm_cst, List.map_cons, zV, e1, Bool.false_and, cond_false, Nat.beq_refl, j1, j2, Bool.and_self, cond_true]
        rfl
      | false =>
        rw [ha] at H
        dsimp only [cond] at H
        cases hg : Nat.beq a 21 with
        | false => rw [hg] at H; exact H.elim
        | true =>
          rw [hg] at H
          have hg := Nat.eq_of_beq_eq_true hg
          subst hg
          obtain ⟨hj, hn, H⟩ := H
          obtain ⟨j1, j2⟩ := zinb (n := 3001) (by omega) hj
          cases hr : h.2.2.2.2 j.toNat with
          | none => exact absurd hr hn
          | some r =>
            have hr2 : (zc h).2.2 21 j.toNat = some r := hr
            refine hS.1 _ _ _ (pc + 1) L (.ref r :: S1.map zV) (zc h) (fun _ => by unfold pt_stop; rw [hf]) ?_ (hk _ _ _ _ (H r hr) L hL)
            unfold pm_step
            rw [hf]
            have e1 : pm_isA pm_swA 21 5 = true := rfl
            have e2 : pm_inb (Int32.ofInt j) (pm_sh pm_swA 21).2 = true := j1
            simp only [pm_push, pm_ari, pm_br, pm_sto, pm_read, pm_rd0, List.map_cons, zV, e1, e2, j2, Bool.and_self, cond_true, hr2, Option.map_some]
            rfl
    · exact H.elim
  · -- putfield
    split at H
    · rename_i idx _ v a S1
      split at H
      · rename_i ci kk hgf
        cases hg : (pm_isO pm_swA a ci && !((pm_clN ci).2.1 kk).2.2.2) with
        | false => rw [hg] at H; exact H.elim
        | true =>
          rw [hg] at H
          dsimp only [cond] at H
          split at H
          · rename_i hty
            split at H
            · rename_i x
              refine hS.1 _ _ _ (pc + 3) L (S1.map zV) (pm_setI (zc h) a kk (Int32.ofInt x)) (fun _ => by unfold pt_stop; rw [hf]) ?_ (by rw [zc_I]; exact hk _ _ _ _ H L hL)
              unfold pm_step
              rw [hf]
              simp only [pm_push, pm_ari, pm_br, pm_sto, pm_read, pm_rd0, pm_cst, pm_write, List.map_cons, zV, hgf, hg, cond_true, hty, pm_put, Option.map_some]
              rfl
            · exact H.elim
          · rename_i hty
            split at H
            · rename_i x
              obtain ⟨hx, H⟩ := H
              have hx2 : Int32.ofInt x = 0 ∨ Int32.ofInt x = 1 := by
                rcases hx with rfl | rfl
                · exact Or.inl (by decide)
                · exact Or.inr (by decide)
              refine hS.1 _ _ _ (pc + 3) L (S1.map zV) (pm_setI (zc h) a kk (Int32.ofInt x)) (fun _ => by unfold pt_stop; rw [hf]) ?_ (by rw [zc_I]; exact hk _ _ _ _ H L hL)
              unfold pm_step
              rw [hf]
              simp only [pm_push, pm_ari, pm_br, pm_sto, pm_read, pm_rd0, pm_cst, pm_write, List.map_cons, zV, hgf, hg, cond_true, hty, pm_put, if_pos hx2, Option.map_some]
              rfl
            · exact H.elim
          · rename_i hty
            split at H
            · rename_i x
              refine hS.1 _ _ _ (pc + 3) L (S1.map zV) (pm_setL (zc h) a kk (Int64.ofInt x)) (fun _ => by unfold pt_stop; rw [hf]) ?_ (by rw [zc_L]; exact hk _ _ _ _ H L hL)
              unfold pm_step
              rw [hf]
              simp only [pm_push, pm_ari, pm_br, pm_sto, pm_read, pm_rd0, pm_cst, pm_write, List.map_cons, zV, hgf, hg, cond_true, hty, pm_put, Option.map_some]
              rfl
            · exact H.elim
          · rename_i hty
            split at H
            · rename_i r
              cases ho : (Nat.beq a 19 && Nat.beq kk 9) with
              | false => rw [ho] at H; exact H.elim
              | true =>
                rw [ho] at H
                obtain ⟨o1, o2⟩ := Bool.and_eq_true_iff.mp ho
                have o1 := Nat.eq_of_beq_eq_true o1
                have o2 := Nat.eq_of_beq_eq_true o2
                subst o1; subst o2
                refine hS.1 _ _ _ (pc + 3) L (S1.map zV) (pm_setR (zc h) 19 9 (some r)) (fun _ => by unfold pt_stop; rw [hf]) ?_ (by rw [zc_K]; exact hk _ _ _ _ H L hL)
                unfold pm_step
                rw [hf]
                simp only [pm_push, pm_ari, pm_br, pm_sto, pm_read, pm_rd0, pm_cst, pm_write, List.map_cons, zV, hgf, hg, cond_true, hty, pm_put, Option.map_some]
                rfl
            · exact H.elim
          · exact H.elim
      · exact H.elim
    · exact H.elim
  · -- iastore
    split at H
    · rename_i _ x j a S1
      cases hg : pm_isA pm_swA a 1 with
      | false => rw [hg] at H; exact H.elim
      | true =>
        rw [hg] at H
        obtain ⟨hj, H⟩ := H
        obtain ⟨j1, j2⟩ := zinb (zlen a) hj
        refine hS.1 _ _ _ (pc + 1) L (S1.map zV) (pm_setI (zc h) a j.toNat (Int32.ofInt x)) (fun _ => by unfold pt_stop; rw [hf]) ?_ (by rw [zc_I]; exact hk _ _ _ _ H L hL)
        unfold pm_step
        rw [hf]
        simp only [pm_push, pm_ari, pm_br, pm_sto, pm_read, pm_rd0, pm_cst, pm_write, List.map_cons, zV, hg, j1, j2, Bool.and_self, cond_true]
        rfl
    · exact H.elim
  · -- castore
    split at H
    · rename_i _ x j a S1
      cases hg : pm_isA pm_swA a 2 with
      | false => rw [hg] at H; exact H.elim
      | true =>
        rw [hg] at H
        obtain ⟨hj, ⟨x1, x2⟩, H⟩ := H
        obtain ⟨j1, j2⟩ := zinb (zlen a) hj
        have hx : vp_nar .char (Int32.ofInt x) = Int32.ofInt x := by
          have : Int32.ofInt x = nI x.toNat := by
            show _ = Int32.ofNat x.toNat
            rw [← Int32.ofInt_eq_ofNat, Int.toNat_of_nonneg x1]
          rw [this]
          exact fd_vc (by omega)
        refine hS.1 _ _ _ (pc + 1) L (S1.map zV) (pm_setI (zc h) a j.toNat (Int32.ofInt x)) (fun _ => by unfold pt_stop; rw [hf]) ?_ (by rw [zc_I]; exact hk _ _ _ _ H L hL)
        unfold pm_step
        rw [hf]
        simp only [pm_push, pm_ari, pm_br, pm_sto, pm_read, pm_rd0, pm_cst, pm_write, List.map_cons, zV, hg, j1, j2, Bool.and_self, cond_true, hx]
        rfl
    · exact H.elim
  · -- bastore
    split at H
    · rename_i _ x j a S1
      cases hg : pm_isA pm_swA a 3 with
      | false => rw [hg] at H; exact H.elim
      | true =>
        rw [hg] at H
        obtain ⟨hj, hx, H⟩ := H
        obtain ⟨j1, j2⟩ := zinb (zlen a) hj
        have hx : vp_nar .boolean (Int32.ofInt x) = Int32.ofInt x := by
          rcases hx with rfl | rfl
          · decide
          · decide
        refine hS.1 _ _ _ (pc + 1) L (S1.map zV) (pm_setI (zc h) a j.toNat (Int32.ofInt x)) (fun _ => by unfold pt_stop; rw [hf]) ?_ (by rw [zc_I]; exact hk _ _ _ _ H L hL)
        unfold pm_step
        rw [hf]
        simp only [pm_push, pm_ari, pm_br, pm_sto, pm_read, pm_rd0, pm_cst, pm_write, List.map_cons, zV, hg, j1, j2, Bool.and_self, cond_true, hx]
        rfl
    · exact H.elim
  · -- aastore
    split at H
    · rename_i _ x j a S1
      cases hg : Nat.beq a 21 with
      | false => rw [hg] at H; exact H.elim
      | true =>
        rw [hg] at H
        have hg := Nat.eq_of_beq_eq_true hg
        subst hg
        obtain ⟨hj, ⟨x1, x2⟩, H⟩ := H
        obtain ⟨j1, j2⟩ := zinb (n := 3001) (by omega) hj
        refine hS.1 _ _ _ (pc + 1) L (S1.map zV) (pm_setR (zc h) 21 j.toNat (some x)) (fun _ => by unfold pt_stop; rw [hf]) ?_ (by rw [zc_T]; exact hk _ _ _ _ H L hL)
        unfold pm_step
        rw [hf]
        have e1 : pm_isA pm_swA 21 5 = true := rfl
        have e2 : pm_inb (Int32.ofInt j) (pm_sh pm_swA 21).2 = true := j1
        have e3 : Nat.ble 1000 x = true := Nat.ble_eq_true_of_le x1
        have e4 : Nat.blt x 1039 = true := Nat.ble_eq_true_of_le x2
        simp only [pm_push, pm_ari, pm_br, pm_sto, pm_read, pm_rd0, pm_cst, pm_write, List.map_cons, zV, e1, e2, e3, e4, j2, Bool.and_self, cond_true]
        rfl
    · exact H.elim
  · -- ireturn
    cases md with
    | true => exact hlf _ _ _ _ H L hL
    | false =>
      dsimp only [cond] at H
      split at H
      · rename_i x
        split at H
        · rename_i hrt
          refine hS.2.1 _ _ _ (some (.int (Int32.ofInt x))) rfl ?_ (hQ _ _ H)
          unfold pm_step
          rw [hf]
          simp only [pm_push, pm_ari, pm_br, pm_sto, pm_read, pm_rd0, pm_cst, pm_write, pm_ret, List.map_cons, List.map_nil, zV, hrt]
        · rename_i hrt
          obtain ⟨hx, H⟩ := H
          have hx2 : Int32.ofInt x = 0 ∨ Int32.ofInt x = 1 := by
            rcases hx with rfl | rfl
            · exact Or.inl (by decide)
            · exact Or.inr (by decide)
          refine hS.2.1 _ _ _ (some (.int (Int32.ofInt x))) rfl ?_ (hQ _ _ H)
          unfold pm_step
          rw [hf]
          simp only [pm_push, pm_ari, pm_br, pm_sto, pm_read, pm_rd0, pm_cst, pm_write, pm_ret, List.map_cons, List.map_nil, zV, hrt, if_pos hx2]
        · rename_i hrt
          obtain ⟨⟨x1, x2⟩, H⟩ := H
          have hx : vp_nar .char (Int32.ofInt x) = Int32.ofInt x := by
            have : Int32.ofInt x = nI x.toNat := by
              show _ = Int32.ofNat x.toNat
              rw [← Int32.ofInt_eq_ofNat, Int.toNat_of_nonneg x1]
            rw [this]
            exact fd_vc (by omega)
          refine hS.2.1 _ _ _ (some (.int (Int32.ofInt x))) rfl ?_ (hQ _ _ H)
          unfold pm_step
          rw [hf]
          simp only [pm_push, pm_ari, pm_br, pm_sto, pm_read, pm_rd0, pm_cst, pm_write, pm_ret, List.map_cons, List.map_nil, zV, hrt, if_pos hx]
        · exact H.elim
      · exact H.elim
  · -- return_
    cases md with
    | true => exact hlf _ _ _ _ H L hL
    | false =>
      dsimp only [cond] at H
      split at H
      · split at H
        · rename_i hrt
          refine hS.2.1 _ _ _ none rfl ?_ (hQ _ _ H)
          unfold pm_step
          rw [hf]
          simp only [pm_push, pm_ari, pm_br, pm_sto, pm_read, pm_rd0, pm_cst, pm_write, pm_ret, List.map_nil, hrt]
        · exact H.elim
      · exact H.elim
  · -- areturn
    cases md with
    | true => exact H.elim
    | false =>
      dsimp only [cond] at H
      split at H
      · rename_i a
        split at H
        · rename_i hrt
          refine hS.2.1 _ _ _ (some (.ref a)) rfl ?_ (hQ _ _ H)
          unfold pm_step
          rw [hf]
          simp only [pm_push, pm_ari, pm_br, pm_sto, pm_read, pm_rd0, pm_cst, pm_write, pm_ret, List.map_cons, List.map_nil, zV, hrt]
        · exact H.elim
      · exact H.elim
  · -- new
    cases md with
    | true => exact hlf _ _ _ _ H L hL
    | false => exact H.elim
  · -- invokevirtual
    split at H
    · rename_i idx _ mj hiv
      split at H
      · rename_i a S1 hdr
        cases hg : ((!pm_sc mj && !Nat.beq mj 167) && (Nat.beq (S.take (pm_np mj)).length (pm_np mj) && (Nat.ble (zcats S1) 8 && Nat.ble (zcats (.inr (.inr a) :: (S.take (pm_np mj)).reverse)) (pm_mx mj)))) with
        | false => rw [hg] at H; exact H.elim
        | true =>
          rw [hg] at H
          dsimp only [cond] at H
          obtain ⟨g1, g2⟩ := Bool.and_eq_true_iff.mp hg
          obtain ⟨g3, g4⟩ := Bool.and_eq_true_iff.mp g1
          obtain ⟨g5, g6⟩ := Bool.and_eq_true_iff.mp g2
          obtain ⟨g7, g8⟩ := Bool.and_eq_true_iff.mp g6
          have h167 : Nat.beq mj 167 = false := by simpa using g4
          have key : pm_rcv pm_swA a (pm_ow mj) = true ∧ zcl d mj (.inr (.inr a) :: (S.take (pm_np mj)).reverse) h (fun v h' => k (pc + 3) M (v ++ S1) h') := by
            unfold zrv at H
            unfold pm_rcv
            cases o7 : Nat.beq (pm_ow mj) 7 with
            | true =>
              rw [o7] at H
              obtain ⟨⟨a1, a2⟩, H⟩ := H
              rw [zblt_f a1]
              exact ⟨Nat.ble_eq_true_of_le a2, H⟩
            | false =>
              rw [o7] at H
              dsimp only [cond] at H
              cases o8 : Nat.beq (pm_ow mj) 8 with
              | true =>
                rw [o8] at H
                obtain ⟨⟨a1, a2⟩, H⟩ := H
                rw [zblt_f (show 1000 ≤ a by omega)]
                exact ⟨Bool.and_eq_true_iff.mpr ⟨Nat.ble_eq_true_of_le a1, Nat.ble_eq_true_of_le a2⟩, H⟩
              | false =>
                rw [o8] at H
                dsimp only [cond] at H
                cases og : (Nat.blt a 1000 && (Nat.blt (pm_ow mj) 7 && pm_isO pm_swA a (pm_ow mj))) with
                | false => rw [og] at H; exact H.elim
                | true =>
                  rw [og] at H
                  obtain ⟨q1, q2⟩ := Bool.and_eq_true_iff.mp og
                  rw [q1]
                  exact ⟨q2, H⟩
          obtain ⟨hrc, H⟩ := key
          have hcall : pm_call (.invokevirtual idx) pm_swA (pm_ow mi) (S.map zV) = some (mj, List.map zV (.inr (.inr a) :: (S.take (pm_np mj)).reverse), S1.map zV) := by
            have e1 : (S.map zV).drop (pm_np mj) = .ref a :: S1.map zV := by rw [← List.map_drop, hdr]; rfl
            have e2 : (S.map zV).take (pm_np mj) = (S.take (pm_np mj)).map zV := List.map_take.symm
            have e3 : ((S.take (pm_np mj)).map zV).reverse = ((S.take (pm_np mj)).reverse).map zV := List.map_reverse.symm
            have e4 : (lg_sl (Value.ref a :: ((S.take (pm_np mj)).reverse).map zV)).length = zcats (.inr (.inr a) :: (S.take (pm_np mj)).reverse) := zsl_ok (.inr (.inr a) :: (S.take (pm_np mj)).reverse)
            unfold pm_call
            dsimp only
            rw [hiv]
            dsimp only
            rw [e1]
            dsimp only
            rw [e2, e3, List.length_map, zcats_ok, e4, g3, g5, hrc, g7, g8]
            rfl
          exact zcl_ok hS (fun _ => by unfold pt_stop; rw [hf]) (zs_call (Or.inl ⟨idx, rfl⟩) hf hcall) h167 H (fun v h' q => by
            have := hk _ _ _ _ q L hL
            rwa [List.map_append] at this)
      · exact H.elim
    · exact H.elim
  · -- invokestatic
    split at H
    · rename_i idx _ mj hiv
      cases hg : ((pm_sc mj && !Nat.beq mj 167) && (Nat.beq (S.take (pm_np mj)).length (pm_np mj) && (Nat.ble (zcats (S.drop (pm_np mj))) 8 && Nat.ble (zcats (S.take (pm_np mj)).reverse) (pm_mx mj)))) with
      | false => rw [hg] at H; exact H.elim
      | true =>
        rw [hg] at H
        dsimp only [cond] at H
        obtain ⟨g1, g2⟩ := Bool.and_eq_true_iff.mp hg
        obtain ⟨g3, g4⟩ := Bool.and_eq_true_iff.mp g1
        obtain ⟨g5, g6⟩ := Bool.and_eq_true_iff.mp g2
        obtain ⟨g7, g8⟩ := Bool.and_eq_true_iff.mp g6
        have h167 : Nat.beq mj 167 = false := by simpa using g4
        have hcall : pm_call (.invokestatic idx) pm_swA (pm_ow mi) (S.map zV) = some (mj, List.map zV (S.take (pm_np mj)).reverse, (S.drop (pm_np mj)).map zV) := by
          have e1 : (S.map zV).drop (pm_np mj) = (S.drop (pm_np mj)).map zV := List.map_drop.symm
          have e2 : (S.map zV).take (pm_np mj) = (S.take (pm_np mj)).map zV := List.map_take.symm
          have e3 : ((S.take (pm_np mj)).map zV).reverse = ((S.take (pm_np mj)).reverse).map zV := List.map_reverse.symm
          unfold pm_call
          dsimp only
          rw [hiv]
          dsimp only
          rw [e1, e2, e3, List.length_map, zcats_ok, zsl_ok, g3, g5, g7, g8]
          rfl
        exact zcl_ok hS (fun _ => by unfold pt_stop; rw [hf]) (zs_call (Or.inr ⟨idx, rfl⟩) hf hcall) h167 H (fun v h' q => by
          have := hk _ _ _ _ q L hL
          rwa [List.map_append] at this)
    · rename_i idx _ hiv
      cases hac : pm_isac (pm_ow mi) idx with
      | false => rw [hac] at H; exact H.elim
      | true =>
        rw [hac] at H
        dsimp only [cond] at H
        unfold zcp at H
        split at H
        · rename_i n dp b sp a S1
          cases hg : ((Nat.blt a pm_swA.length && (Nat.blt b pm_swA.length && Nat.beq (pm_sh pm_swA a).1 (pm_sh pm_swA b).1)) && ((Nat.beq (pm_sh pm_swA a).1 1 || Nat.beq (pm_sh pm_swA a).1 2) && Nat.ble (zcats S1) 8)) with
          | false => rw [hg] at H; exact H.elim
          | true =>
            rw [hg] at H
            dsimp only [cond] at H
            obtain ⟨g1, g2⟩ := Bool.and_eq_true_iff.mp hg
            obtain ⟨g3, g4⟩ := Bool.and_eq_true_iff.mp g1
            obtain ⟨g5, g6⟩ := Bool.and_eq_true_iff.mp g4
            obtain ⟨g7, g8⟩ := Bool.and_eq_true_iff.mp g2
            obtain ⟨⟨r1, r2, r3⟩, ⟨r4, r5⟩, hch, hd, H⟩ := H
            have la := zlen a
            have lb := zlen b
            obtain ⟨s1, s2⟩ := znn (j := sp) r1 (by omega)
            obtain ⟨d1, d2⟩ := znn (j := dp) r2 (by omega)
            obtain ⟨n1, n2⟩ := znn (j := n) r3 (by omega)
            have hstep : pm_step pm_swA mi pc L (List.map zV (.inl n :: .inl dp :: .inr (.inr b) :: .inl sp :: .inr (.inr a) :: S1)) (zc h) = none := by
              unfold pm_step
              rw [hf]
              simp only [pm_push, pm_ari, pm_br, pm_sto, pm_read, pm_rd0, pm_cst, pm_write, pm_ret, pm_call, hiv]
            have hfit : pm_cpfit (pm_sh pm_swA a).1 ((zc h).1 a) sp.toNat n.toNat = true := by
              unfold pm_cpfit
              rcases Bool.or_eq_true_iff.mp g7 with e | e
              · rw [e]; rfl
              · rw [e]
                rw [e] at hch
                rw [Bool.or_eq_true_iff]
                refine Or.inr (Bool.and_eq_true_iff.mpr ⟨rfl, List.all_eq_true.mpr (fun x _ => ?_)⟩)
                obtain ⟨c1, c2⟩ := hch (sp.toNat + x)
                show (decide (0 ≤ Int32.ofInt (zrd h a (sp.toNat + x))) && decide (Int32.ofInt (zrd h a (sp.toNat + x)) ≤ 65535)) = true
                rw [show (65535 : Int32) = Int32.ofInt 65535 by decide, zi_00]
                exact Bool.and_eq_true_iff.mpr ⟨decide_eq_true ((zi_le zi_z (by omega)).mpr c1), decide_eq_true ((zi_le (by omega) (by omega)).mpr (by omega))⟩
            refine hS.2.2.2 _ _ _ (.invokestatic idx) _ (S1.map zV) (fun _ => by unfold pt_stop; rw [hf]) hstep hf ?_ hd (hk _ _ _ _ H L hL)
            unfold pm_cpy
            simp only [List.map_cons, zV]
            rw [hac, g3, g5, g6, s1, d1, n1, s2, d2, n2, hfit, zcats_ok, g8]
            rw [show Nat.ble (sp.toNat + n.toNat) (pm_sh pm_swA a).2 = true from Nat.ble_eq_true_of_le (by omega), show Nat.ble (dp.toNat + n.toNat) (pm_sh pm_swA b).2 = true from Nat.ble_eq_true_of_le (by omega)]
            have := zc_A h b (va_cpy ((zc h).1 a) ((zc h).1 b) sp.toNat dp.toNat n.toNat) (fun j => if dp.toNat ≤ j ∧ j < dp.toNat + n.toNat then zrd h a (sp.toNat + (j - dp.toNat)) else zrd h b j) (fun j => by
              unfold va_cpy
              split <;> rfl)
            rw [← this]
            rfl
        · exact H.elim
  · -- ior
    split at H
    · rename_i _ y x S1
      obtain ⟨hx0, hy0, H⟩ := H
      have key : ∃ c : Int, (c = 0 ∨ c = 1) ∧ Int32.ofInt x ||| Int32.ofInt y = Int32.ofInt c := by
        rcases hx0 with rfl | rfl
        · rcases hy0 with rfl | rfl
          · exact ⟨0, Or.inl rfl, by decide⟩
          · exact ⟨1, Or.inr rfl, by decide⟩
        · rcases hy0 with rfl | rfl
          · exact ⟨1, Or.inr rfl, by decide⟩
          · exact ⟨1, Or.inr rfl, by decide⟩
      obtain ⟨c, hc, e⟩ := key
      refine hS.1 _ _ _ (pc + 1) L (.int (Int32.ofInt c) :: S1.map zV) (zc h) (fun _ => by unfold pt_stop; rw [hf]) ?_ (hk _ _ _ _ (H c hc) L hL)
      unfold pm_step
      rw [hf, ← e]
      rfl
    · exact H.elim
  · exact zhv_ok hS hf H (fun pc' S' q => hk _ _ _ _ q L hL)
theorem zbody_ok (hS : zS d mi md pc P R) {hv : List Nat} {Q : Option zv → zh → Prop} {lf : Nat → zM → List zv → zh → Prop} (hlf : ∀ pc M S h, lf pc M S h → ∀ L, zlr M L → P pc L (S.map zV) (zc h)) (hQ : ∀ w h, Q w h → R (w.map zV) (zc h)) {M : zM} {S : List zv} {k : Nat → zM → List zv → zh → Prop} (hk : ∀ pc' M' S' h', k pc' M' S' h' → ∀ L', zlr M' L' → P pc' L' (S'.map zV) (zc h')) (H : zbody hv d mi md Q lf pc M S h k) (L : pm_L) (hL : zlr M L) : P pc L (S.map zV) (zc h) := by
  unfold zbody at H
  split at H
  · exact H.elim
  · rename_i i hf
    cases hv0 : zin hv pc with
    | true =>
      rw [hv0] at H
      dsimp only [cond] at H
      exact zhv_ok hS hf H (fun pc' S' q => hk _ _ _ _ q L hL)
    | false =>
      rw [hv0] at H
      dsimp only [cond] at H
      split at H
      · rename_i pc1 M1 S1 hz
        obtain ⟨L1, q1, q2⟩ := zstep_ok (L := L) (h := zc h) hf hz hL
        cases hsp : pt_stop mi pc with
        | false => exact hS.1 _ _ _ _ _ _ _ (fun _ => hsp) q1 (hk _ _ _ _ H L1 q2)
        | true =>
          exfalso
          unfold pt_stop at hsp
          rw [hf] at hsp
          unfold zstep at hz
          split at hsp
          · rename_i e; cases e; cases hz
          · rename_i e; cases e; cases hz
          · rename_i e; cases e; cases hz
          · cases hsp
      · exact zb_ok hS hf hL H hlf hQ hk
theorem wz_ok (hS : ∀ pc, zS d mi md pc P R) {st : List (Nat × List Nat)} {hv : List Nat} {Q : Option zv → zh → Prop} {lf : Nat → zM → List zv → zh → Prop} (hlf : ∀ pc M S h, lf pc M S h → ∀ L, zlr M L → P pc L (S.map zV) (zc h)) (hQ : ∀ w h, Q w h → R (w.map zV) (zc h)) :
    ∀ (n pc : Nat) (M : zM) (S : List zv) (h : zh), wz st hv d mi md Q lf n pc M S h → ∀ L, zlr M L → P pc L (S.map zV) (zc h) := by
  intro n
  induction n with
  | zero => intro pc M S h H; exact hlf pc M S h H
  | succ n ih =>
    intro pc M S h H L hL
    unfold wz at H
    refine zbody_ok (hS pc) hlf hQ (fun pc' M' S' h' q L' hL' => ?_) H L hL
    split at q
    · exact hlf _ _ _ _ q L' (zlr_for _ hL')
    · exact ih _ _ _ _ q L' hL'
end ZB
/-- a method from a place on, in whole numbers -/
def zR (Q : Option zv → zh → Prop) (v : Option Value) (h1 : pm_H) : Prop := ∃ w h', v = w.map zV ∧ h1 = zc h' ∧ Q w h'
def pq (d mi pc : Nat) (M : zM) (S : List zv) (h : zh) (Q : Option zv → zh → Prop) : Prop := ∀ L, zlr M L → px d mi pc L (S.map zV) (zc h) (zR Q)
theorem zS_px (d mi : Nat) (Q : Option Value → pm_H → Prop) (pc : Nat) : zS d mi false pc (fun pc L S h => px d mi pc L S h Q) Q := by
  refine ⟨fun L S h pc' L' S' h' _ hs q => px_st hs q, fun L S h v _ hs q => px_ret hs q, fun L S h mj as S' _ hs hp hd q => ?_, fun L S h i h' S' _ hs hf hc hd q => px_cpy hs hf hc hd q⟩
  cases d with
  | zero => exact absurd hd (by omega)
  | succ d => exact px_call hs hp q
theorem pq_of {d mi pc : Nat} {M : zM} {S : List zv} {h : zh} {Q : Option zv → zh → Prop} (n : Nat) (st : List (Nat × List Nat)) (hv : List Nat) (H : wz st hv d mi false Q (fun pc M S h => pq d mi pc M S h Q) n pc M S h) : pq d mi pc M S h Q := fun L hL =>
  wz_ok (zS_px d mi (zR Q)) (fun _ _ _ _ q => q) (fun w h q => ⟨w, h, rfl, rfl, q⟩) n pc M S h H L hL
def qV (Q : zF → zF → zF → Nat → zT → Prop) (v : Option zv) (h : zh) : Prop := match v with
  | none => Q h.1 h.2.1 h.2.2.1 h.2.2.2.1 h.2.2.2.2
  | _ => False
def qI (Q : Int → zF → zF → zF → Nat → zT → Prop) (v : Option zv) (h : zh) : Prop := match v with
  | some (.inl n) => Q n h.1 h.2.1 h.2.2.1 h.2.2.2.1 h.2.2.2.2
  | _ => False
def qR (Q : Nat → zF → zF → zF → Nat → zT → Prop) (v : Option zv) (h : zh) : Prop := match v with
  | some (.inr (.inr n)) => Q n h.1 h.2.1 h.2.2.1 h.2.2.2.1 h.2.2.2.2
  | _ => False
theorem pzV_pq {d mj : Nat} {as : List zv} {h : zh} {Q : zF → zF → zF → Nat → zT → Prop} (H : pq d mj 0 (zarg (pm_mx mj) as) [] h (qV Q)) : pzV d mj as h Q := by
  refine px_imp (H _ (zarg_ok _ _)) ?_
  rintro v h1 ⟨w, ⟨A, B, Y, K, T⟩, rfl, rfl, q⟩
  rcases w with _ | _
  · exact ⟨A, B, Y, K, T, rfl, rfl, q⟩
  · exact q.elim
theorem pzI_pq {d mj : Nat} {as : List zv} {h : zh} {Q : Int → zF → zF → zF → Nat → zT → Prop} (H : pq d mj 0 (zarg (pm_mx mj) as) [] h (qI Q)) : pzI d mj as h Q := by
  refine px_imp (H _ (zarg_ok _ _)) ?_
  rintro v h1 ⟨w, ⟨A, B, Y, K, T⟩, rfl, rfl, q⟩
  rcases w with _ | n | _
  · exact q.elim
  · exact ⟨n, A, B, Y, K, T, rfl, rfl, q⟩
  · exact q.elim
theorem pzR_pq {d mj : Nat} {as : List zv} {h : zh} {Q : Nat → zF → zF → zF → Nat → zT → Prop} (H : pq d mj 0 (zarg (pm_mx mj) as) [] h (qR Q)) : pzR d mj as h Q := by
  refine px_imp (H _ (zarg_ok _ _)) ?_
  rintro v h1 ⟨w, ⟨A, B, Y, K, T⟩, rfl, rfl, q⟩
  rcases w with _ | _ | _ | n
  · exact q.elim
  · exact q.elim
  · exact q.elim
  · exact ⟨n, A, B, Y, K, T, rfl, rfl, q⟩
theorem pzV_of {d mj : Nat} {as : List zv} {h : zh} {Q : zF → zF → zF → Nat → zT → Prop} (n : Nat) (st : List (Nat × List Nat)) (hv : List Nat) (H : wz st hv d mj false (qV Q) (fun pc M S h => pq d mj pc M S h (qV Q)) n 0 (zarg (pm_mx mj) as) [] h) : pzV d mj as h Q := pzV_pq (pq_of n st hv H)
theorem pzI_of {d mj : Nat} {as : List zv} {h : zh} {Q : Int → zF → zF → zF → Nat → zT → Prop} (n : Nat) (st : List (Nat × List Nat)) (hv : List Nat) (H : wz st hv d mj false (qI Q) (fun pc M S h => pq d mj pc M S h (qI Q)) n 0 (zarg (pm_mx mj) as) [] h) : pzI d mj as h Q := pzI_pq (pq_of n st hv H)
theorem pzR_of {d mj : Nat} {as : List zv} {h : zh} {Q : Nat → zF → zF → zF → Nat → zT → Prop} (n : Nat) (st : List (Nat × List Nat)) (hv : List Nat) (H : wz st hv d mj false (qR Q) (fun pc M S h => pq d mj pc M S h (qR Q)) n 0 (zarg (pm_mx mj) as) [] h) : pzR d mj as h Q := pzR_pq (pq_of n st hv H)
