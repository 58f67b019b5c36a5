/-! A run of the pure machine up to a place: what holds there gives what holds here -/
def pp_run (sw : List (Nat × Nat)) (stop : Nat → Bool) : Nat → Nat → Nat → Nat → pm_L → List Value → pm_H → Option (Nat × pm_L × List Value × pm_H)
  | 0, _, _, _, _, _, _ => none
  | n + 1, d, mi, pc, L, S, h => bif stop pc then some (pc, L, S, h) else match pm_step sw mi pc L S h with
    | none => match pm_fd (pm_code mi) pc with
      | none => none
      | some i => match pm_cpy i sw (pm_ow mi) h S with
        | none => none
        | some (h', S') => bif Nat.blt 0 d then pp_run sw stop n d mi (pc + 3) L S' h' else none
    | some (.inl (pc', L', S', h')) => pp_run sw stop n d mi pc' L' S' h'
    | some (.inr (.inl _)) => none
    | some (.inr (.inr (mj, as, S'))) => match d with
      | 0 => none
      | d' + 1 => match pm_prim mj as with
        | some v => bif Nat.ble 4 d' then pp_run sw stop n (d' + 1) mi (pc + 3) L (v :: S') h else none
        | none => match pm_run sw n d' mj 0 (lv_args 0 as) [] h with
          | none => none
          | some (v, h') => pp_run sw stop n (d' + 1) mi (pc + 3) L (v.toList ++ S') h'
section PP1
variable {l : Launch} {rho : Nat → Nat} {D : va_G} {cy : Nat → ClassId} {sw : List (Nat × Nat)}
def pp_Bd (l : Launch) (rho : Nat → Nat) (D : va_G) (cy : Nat → ClassId) (sw : List (Nat × Nat)) (stop : Nat → Bool) (n : Nat) : Prop :=
  ∀ (d mi pc : Nat) (L : pm_L) (S : List Value) (h : pm_H) (pc9 : Nat) (L9 : pm_L) (S9 : List Value) (h' : pm_H), pp_run sw stop n d mi pc L S h = some (pc9, L9, S9, h') →
  ∀ (p : Program) (e : Env) (R : Room) (s : State) (m : MethodId) (args : Array Value) (below : List Frame) (meth : Method) (c : Code) (H : Heap) (locs : List Loc) (ls : Array Slot) (A : Nat → Prop) (Q : State → Prop) (cells slots : Nat) (Ts : List Cond),
  p.tables.exec = Jvm.exec → c.code = pm_by mi → c.maxLocals = pm_mx mi → s.vm.findClass (pm_on (pm_ow mi)) = some m.cls → (∀ w ∈ Ts, w.before args s = true) → (∀ w ∈ pm_G, w ∈ Ts) → (d ≤ R.frames ∧ d * 40 ≤ R.locals ∧ cells ≤ R.cells ∧ slots ≤ R.slots) →
  va_K D pm_cl (pm_tys cy) s → va_P D pm_cl (pm_W cy rho sw h) H → va_D A (pm_W cy rho sw h) → va_S A s.heap H locs → (∀ q, s.heap.size ≤ q → A q) → pm_KS rho A s s.heap → lv_has ls (pm_mx mi) (pm_cL rho L) →
  (∀ (H1 : Heap) (locs1 : List Loc) (ls1 : Array Slot), va_P D pm_cl (pm_W cy rho sw h') H1 → va_D A (pm_W cy rho sw h') → va_S A s.heap H1 locs1 → lv_has ls1 (pm_mx mi) (pm_cL rho L9) → W p l e R s m args below meth c H1 locs1 cells slots Q (F0 m pc9 ls1 (pm_cS rho S9))) →
  W p l e R s m args below meth c H locs cells slots Q (F0 m pc ls (pm_cS rho S))
theorem pp_goodIn {Ts : List Cond} {mj : Nat} (hG : ∀ w ∈ pm_G, w ∈ Ts) (hj : mj < 173) : GoodIn Ts (pm_ws mj) := by
  intro w hw
  have hw2 : w ∈ pm_G := by
    rcases List.mem_cons.mp hw with rfl | h1
    · exact pm_G_all hj
    · exact h1
  exact ⟨hG w hw2, pm_good_G w hw2⟩
set_option maxHeartbeats 4000000 in
theorem pp_body (hinj : ∀ a b, pm_kc a = true → pm_kc b = true → rho a = rho b → a = b) (hprim : ∀ (mj : Nat) (as : List Value) (v : Value), pm_prim mj as = some v → ∀ (h : pm_H) (sz : Nat), Met l (pm_nm mj) (pm_ws mj) (pm_rm 4) (va_Pc (pm_cS rho as) (pm_B rho D cy sw h sz)) (pm_Q rho D cy sw h sz (some v) h) 0 0 (va_A (pm_W cy rho sw h) sz)) (stop : Nat → Bool) : ∀ n, pp_Bd l rho D cy sw stop n := by
  intro n
  induction n with
  | zero => intro d mi pc L S h pc9 L9 S9 h' hrun; cases hrun
  | succ n ih =>
    intro d mi pc L S h pc9 L9 S9 h' hrun p e R s m args below meth c H locs ls A Q cells slots Ts hx hb hml hown hts hG hR hK hP hD hS hA hKS hl hQ
    unfold pp_run at hrun
    cases hstp : stop pc with
    | true =>
      rw [hstp] at hrun
      cases hrun
      exact hQ H locs ls hP hD hS hl
    | false =>
    rw [hstp] at hrun
    dsimp only [cond] at hrun
    cases hst : pm_step sw mi pc L S h with
    | none =>
      rw [hst] at hrun
      dsimp only at hrun
      cases hfd : pm_fd (pm_code mi) pc with
      | none => rw [hfd] at hrun; cases hrun
      | some i =>
        rw [hfd] at hrun
        dsimp only at hrun
        obtain ⟨len, hdec, hlen⟩ := pm_decode hfd
        cases h9 : pm_cpy i sw (pm_ow mi) h S with
        | none => rw [h9] at hrun; cases hrun
        | some q =>
          obtain ⟨h9', S1⟩ := q
          rw [h9] at hrun
          dsimp only at hrun
          cases hd : Nat.blt 0 d with
          | false => rw [hd] at hrun; cases hrun
          | true =>
            rw [hd] at hrun
            have hd := pm_blt hd
            have hdg : decode (pm_by mi) pc = .ok (i, pm_ln i) := by
              rcases hlen with h1 | h1
              · unfold pm_cpy at h9; split at h9 <;> first | cases h1 | cases h9
              · rw [hdec, h1]
            exact pm_cpy_snd hx hb (hml.trans hl.1.symm) hts hG hown hK hP hD hS ⟨by omega, by omega⟩ hdg h9 (fun H1 locs1 hP1 hD1 hS1 => ih _ _ _ _ _ _ _ _ _ _ hrun p e R s m args below meth c H1 locs1 ls A Q cells slots Ts hx hb hml hown hts hG hR hK hP1 hD1 hS1 hA hKS hl hQ)
    | some r =>
      rw [hst] at hrun
      unfold pm_step at hst
      cases hfd : pm_fd (pm_code mi) pc with
      | none => rw [hfd] at hst; cases hst
      | some i =>
        rw [hfd] at hst
        dsimp only at hst
        obtain ⟨len, hdec, hlen⟩ := pm_decode hfd
        have hd1 : pm_ln i ≠ 0 → decode (pm_by mi) pc = .ok (i, pm_ln i) := fun z => by
          rcases hlen with h1 | h1
          · exact absurd h1 z
          · rw [hdec, h1]
        cases h1 : pm_push i L with
        | some v1 =>
          rw [h1] at hst
          cases hst
          exact pm_push_snd hx hb (hd1 (fun z => by unfold pm_push at h1; split at h1 <;> first | cases z | cases h1)) hl h1 (ih _ _ _ _ _ _ _ _ _ _ hrun p e R s m args below meth c H locs ls A Q cells slots Ts hx hb hml hown hts hG hR hK hP hD hS hA hKS hl hQ)
        | none =>
          rw [h1] at hst
          dsimp only at hst
          cases h2 : pm_ari i S with
          | some S1 =>
            rw [h2] at hst
            cases hst
            exact pm_ari_snd hx hb (hd1 (fun z => by unfold pm_ari at h2; split at h2 <;> first | cases z | cases h2)) h2 (ih _ _ _ _ _ _ _ _ _ _ hrun p e R s m args below meth c H locs ls A Q cells slots Ts hx hb hml hown hts hG hR hK hP hD hS hA hKS hl hQ)
          | none =>
            rw [h2] at hst
            dsimp only at hst
            cases h3 : pm_br i pc S with
            | some q =>
              obtain ⟨pc1, S1⟩ := q
              rw [h3] at hst
              cases hst
              exact pm_br_snd hx hb hdec hlen hinj h3 (ih _ _ _ _ _ _ _ _ _ _ hrun p e R s m args below meth c H locs ls A Q cells slots Ts hx hb hml hown hts hG hR hK hP hD hS hA hKS hl hQ)
            | none =>
              rw [h3] at hst
              dsimp only at hst
              cases h4 : pm_sto i (pm_mx mi) L S with
              | some q =>
                obtain ⟨L1, S1⟩ := q
                rw [h4] at hst
                cases hst
                exact pm_sto_snd hx hb (hd1 (fun z => by unfold pm_sto at h4; split at h4 <;> first | cases z | cases h4)) hl h4 (fun ls' hl' => ih _ _ _ _ _ _ _ _ _ _ hrun p e R s m args below meth c H locs ls' A Q cells slots Ts hx hb hml hown hts hG hR hK hP hD hS hA hKS hl' hQ)
              | none =>
                rw [h4] at hst
                dsimp only at hst
                cases h5 : pm_read i sw (pm_ow mi) h S with
                | some S1 =>
                  rw [h5] at hst
                  cases hst
                  exact pm_read_snd hx hb hts hG hown hK hP hS hKS (hd1 (pm_read_ln h5)) h5 (ih _ _ _ _ _ _ _ _ _ _ hrun p e R s m args below meth c H locs ls A Q cells slots Ts hx hb hml hown hts hG hR hK hP hD hS hA hKS hl hQ)
                | none =>
                  rw [h5] at hst
                  dsimp only at hst
                  cases h6 : pm_write i sw (pm_ow mi) h S with
                  | some q =>
                    obtain ⟨h1', S1⟩ := q
                    rw [h6] at hst
                    cases hst
                    exact pm_write_snd hx hb hts hG hown hK hP hD hS hKS (hd1 (fun z => by unfold pm_write at h6; split at h6 <;> first | cases z | cases h6)) h6 (fun H1 locs1 hP1 hD1 hS1 => ih _ _ _ _ _ _ _ _ _ _ hrun p e R s m args below meth c H1 locs1 ls A Q cells slots Ts hx hb hml hown hts hG hR hK hP1 hD1 hS1 hA hKS hl hQ)
                  | none =>
                    rw [h6] at hst
                    dsimp only at hst
                    cases h7 : pm_ret i (pm_rt mi) S with
                    | some w =>
                      rw [h7] at hst
                      cases hst
                      cases hrun
                    | none =>
                      rw [h7] at hst
                      dsimp only at hst
                      cases h8 : pm_call i sw (pm_ow mi) S with
                      | none => rw [h8] at hst; cases hst
                      | some q =>
                        obtain ⟨mj, as, S1⟩ := q
                        rw [h8] at hst
                        cases hst
                        dsimp only at hrun
                        cases d with
                        | zero => cases hrun
                        | succ d =>
                          dsimp only at hrun
                          have hcal : ∃ (d2 : Nat) (v2 : Option Value) (h2' : pm_H), d2 ≤ d ∧ ((lg_sl as).length ≤ pm_mx mj → mj < 173 → ∀ sz, Met l (pm_nm mj) (pm_ws mj) (pm_rm d2) (va_Pc (pm_cS rho as) (pm_B rho D cy sw h sz)) (pm_Q rho D cy sw h sz v2 h2') 0 0 (va_A (pm_W cy rho sw h) sz)) ∧ pp_run sw stop n (d + 1) mi (pc + 3) L (v2.toList ++ S1) h2' = some (pc9, L9, S9, h') := by
                            cases hpr : pm_prim mj as with
                            | some v2 =>
                              rw [hpr] at hrun
                              dsimp only at hrun
                              cases hd4 : Nat.ble 4 d with
                              | false => rw [hd4] at hrun; cases hrun
                              | true =>
                                rw [hd4] at hrun
                                exact ⟨4, some v2, h, Nat.le_of_ble_eq_true hd4, fun _ _ sz => hprim mj as v2 hpr h sz, hrun⟩
                            | none =>
                              rw [hpr] at hrun
                              dsimp only at hrun
                              cases hcal : pm_run sw n d mj 0 (lv_args 0 as) [] h with
                              | none => rw [hcal] at hrun; cases hrun
                              | some r2 =>
                                obtain ⟨v2, h2'⟩ := r2
                                rw [hcal] at hrun
                                exact ⟨d, v2, h2', Nat.le_refl _, fun hfit hj sz => pm_met_of (pm_body hinj hprim n) hcal hj hfit sz, hrun⟩
                          clear hrun
                          obtain ⟨d2, v2, h2', hd2, hMet, hrun⟩ := hcal
                          have hFc : ∀ q, va_A (pm_W cy rho sw h) H.size q → A q := by
                            intro q hq
                            rcases hq with ⟨k, en, hk⟩ | hq
                            · exact hD.2 k _ hk
                            · exact hA q (Nat.le_trans hS.1 hq)
                          have hKS1 : pm_KS rho (va_A (pm_W cy rho sw h) H.size) s H := (hKS.kept hS.2.1).narrow hFc
                          have hpre : ∀ U : State, U.heap = H → s.WarmedH U.vm → pm_B rho D cy sw h H.size U := by
                            intro U hU hW
                            refine ⟨by rw [hU], by rw [hU]; exact hP, va_K.moved hW.alike hK, hD.weaken (fun _ _ _ _ => trivial), ?_⟩
                            rw [hU]
                            exact pm_KS.moved hW hKS1
                          have hdg := hd1 (fun z => by unfold pm_call at h8; split at h8 <;> first | cases z | cases h8)
                          have hfin : ∀ (mj : Nat) (as S1 : List Value) (st0 : List Value) (a0 : Array Value), mj < 173 → va_Run p l e R s m args below meth c H locs cells slots 0 0 (F0 m pc ls st0) (pm_cS rho S1) (pm_Q rho D cy sw h H.size v2 h2' a0) (va_A (pm_W cy rho sw h) H.size) → pp_run sw stop n (d + 1) mi (pc + 3) L (v2.toList ++ S1) h2' = some (pc9, L9, S9, h') → W p l e R s m args below meth c H locs cells slots Q (F0 m pc ls st0) := by
                            intro mj as S1 st0 a0 hj hr hrun
                            refine pm_callk (B := fun t => va_P D pm_cl (pm_W cy rho sw h2') t.heap ∧ va_D (va_A (pm_W cy rho sw h) H.size) (pm_W cy rho sw h2')) (A1 := va_A (pm_W cy rho sw h) H.size) (v0 := v2.map (pm_cv rho)) hr ?_ hS (fun q _ z => hFc q z) hFc ?_
                            · intro st w t hq
                              obtain ⟨q1, q2, q3⟩ := hq
                              exact ⟨Outcome.returned.inj q1, q2, q3⟩
                            · intro t locs1 hBt hS1
                              rw [pm_toList_c, ← pm_cS_app]
                              exact ih _ _ _ _ _ _ _ _ _ _ hrun p e R s m args below meth c t.heap locs1 ls A Q cells slots Ts hx hb hml hown hts hG hR hK hBt.1 (hBt.2.weaken (fun _ q _ z => hFc q.1 z)) hS1 hA hKS hl hQ
                          have hcb : ∀ (idx mj : Nat), pm_iv (pm_ow mi) idx = some mj → mj < 173 ∧ CallB R s args (pm_on (pm_ow mi)) idx (pm_nm mj) (pm_by mj) (pm_mx mj) (pm_rt mj) (pm_ws mj) (pm_rm d2) 0 0 (pm_np mj) := by
                            intro idx mj hiv
                            obtain ⟨hj, hlink⟩ := pm_iv_ok hiv
                            have hcls : (pm_nm mj).cls = pm_on (pm_ow mj) := of_decide_eq_true (List.all_eq_true.mp pm_mC mj (List.mem_range.mpr hj))
                            obtain ⟨n1, n2⟩ := Bool.and_eq_true_iff.mp (List.all_eq_true.mp pm_mG mj (List.mem_range.mpr hj))
                            have hini : Cond.initialized (pm_on (pm_ow mj)) ∈ pm_G := pm_mem (List.all_eq_true.mp pm_mB mj (List.mem_range.mpr hj))
                            have hmx : pm_mx mj ≤ 20 := Nat.le_of_ble_eq_true (List.all_eq_true.mp pm_mF mj (List.mem_range.mpr hj))
                            exact ⟨hj, callB_of (pm_np mj) hts (pp_goodIn hG hj) rfl rfl rfl (by rw [hcls]; exact hts _ (hG _ hini)) (hts _ (hG _ hlink)) ⟨of_decide_eq_true n1, of_decide_eq_true n2, of_decide_eq_true (List.all_eq_true.mp pm_mD mj (List.mem_range.mpr hj))⟩ ⟨by show d2 + 1 ≤ R.frames; omega, by show 8 + (pm_mx mj + 11) + d2 * 40 ≤ R.locals; omega⟩⟩
                          unfold pm_call at h8
                          split at h8
                          · split at h8
                            · rename_i idx _ mj0 hiv
                              split at h8
                              · rename_i _ a S2 hdr
                                obtain ⟨hg, he⟩ := pm_bif h8
                                cases he
                                obtain ⟨g1, g2⟩ := Bool.and_eq_true_iff.mp hg
                                obtain ⟨g3, g4⟩ := Bool.and_eq_true_iff.mp g2
                                obtain ⟨g5, g6⟩ := Bool.and_eq_true_iff.mp g4
                                obtain ⟨g7, g8⟩ := Bool.and_eq_true_iff.mp g6
                                obtain ⟨hj, cb⟩ := hcb idx mj hiv
                                have hM := hMet (Nat.le_of_ble_eq_true g8) hj H.size
                                have hA1 := pm_mA_at hj
                                unfold pm_mA at hA1
                                have hsc : pm_sc mj = false := by
                                  cases hz : pm_sc mj with
                                  | false => rfl
                                  | true => rw [hz] at g1; cases g1
                                rw [hsc] at hA1
                                obtain ⟨w1, w2⟩ := Bool.and_eq_true_iff.mp hA1
                                have hcls : (pm_nm mj).cls = pm_on (pm_ow mj) := of_decide_eq_true (List.all_eq_true.mp pm_mC mj (List.mem_range.mpr hj))
                                have hS0 : S = S.take (pm_np mj) ++ .ref a :: S1 := by
                                  have := (List.take_append_drop (pm_np mj) S).symm
                                  rw [hdr] at this
                                  exact this
                                refine hfin mj [] S1 _ _ hj (va_runV (C := pm_on (pm_ow mj)) (b := rho a) (As := pm_cS rho (S.take (pm_np mj)).reverse) (rest := pm_cS rho S1) ⟨hx, hb, hml, hown, hts⟩ hM ⟨cb, hts _ (hG _ (pm_mem w1)), hts _ (hG _ (pm_mem w2))⟩ ⟨pm_blind, pm_rcv_t g5 hK hP hS hKS, fun U hU hW => ⟨rfl, hpre U hU hW⟩⟩ rfl ?_ hl.1 ?_ (lv_room ?_) hdg ⟨hR.2.2.1, hR.2.2.2⟩) hrun
                                · show (pm_cS rho (S.take (pm_np mj)).reverse).length = _
                                  unfold pm_cS
                                  rw [List.length_map, List.length_reverse]
                                  exact Nat.eq_of_beq_eq_true g3
                                · show pm_cS rho S = (pm_cS rho (S.take (pm_np mj)).reverse).reverse ++ .ref (rho a) :: pm_cS rho S1
                                  rw [pm_cS_rev, List.reverse_reverse]
                                  calc pm_cS rho S = pm_cS rho (S.take (pm_np mj) ++ .ref a :: S1) := by rw [← hS0]
                                    _ = _ := pm_cS_app rho _ _
                                · rw [pm_cats_c]
                                  exact Nat.le_of_ble_eq_true g7
                              · cases h8
                            · cases h8
                          · split at h8
                            · rename_i idx _ mj0 hiv
                              obtain ⟨hg, he⟩ := pm_bif h8
                              cases he
                              obtain ⟨g1, g2⟩ := Bool.and_eq_true_iff.mp hg
                              obtain ⟨g3, g4⟩ := Bool.and_eq_true_iff.mp g2
                              obtain ⟨g7, g8⟩ := Bool.and_eq_true_iff.mp g4
                              obtain ⟨hj, cb⟩ := hcb idx mj hiv
                              have hM := hMet (Nat.le_of_ble_eq_true g8) hj H.size
                              have hA1 := pm_mA_at hj
                              unfold pm_mA at hA1
                              rw [g1] at hA1
                              have hS0 : S = S.take (pm_np mj) ++ S.drop (pm_np mj) := (List.take_append_drop (pm_np mj) S).symm
                              refine hfin mj [] (S.drop (pm_np mj)) _ _ hj (va_runS (As := pm_cS rho (S.take (pm_np mj)).reverse) (rest := pm_cS rho (S.drop (pm_np mj))) ⟨hx, hb, hml, hown, hts⟩ hM ⟨cb, hts _ (hG _ (pm_mem hA1))⟩ ⟨pm_blind, fun U hU hW => ⟨rfl, hpre U hU hW⟩⟩ rfl ?_ hl.1 ?_ (lv_room ?_) hdg ⟨hR.2.2.1, hR.2.2.2⟩) hrun
                              · show (pm_cS rho (S.take (pm_np mj)).reverse).length = _
                                unfold pm_cS
                                rw [List.length_map, List.length_reverse]
                                exact Nat.eq_of_beq_eq_true g3
                              · show pm_cS rho S = (pm_cS rho (S.take (pm_np mj)).reverse).reverse ++ pm_cS rho (S.drop (pm_np mj))
                                rw [pm_cS_rev, List.reverse_reverse]
                                calc pm_cS rho S = pm_cS rho (S.take (pm_np mj) ++ S.drop (pm_np mj)) := by rw [← hS0]
                                  _ = _ := pm_cS_app rho _ _
                              · rw [pm_cats_c]
                                exact Nat.le_of_ble_eq_true g7
                            · cases h8
                          · cases h8
end PP1
