section PM8
variable {l : Launch} {rho : Nat → Nat} {D : va_G} {cy : Nat → ClassId} {sw : List (Nat × Nat)}
theorem pm_not {b : Bool} (h : (!b) = true) : b = false := by cases b with | false => rfl | true => cases h
theorem pm_cpy_snd {p : Program} {e : Env} {R : Room} {s : State} {m : MethodId} {args : Array Value} {below : List Frame} {meth : Method} {c : Code} {H : Heap} {locs : List Loc} {cells slots : Nat} {Q : State → Prop} {cc : ByteArray} {pc : Nat} {ls : Array Slot} {S S' : List Value} {h h' : pm_H} {A : Nat → Prop} {Ts : List Cond} {ow : Nat} (hx : p.tables.exec = Jvm.exec) (hb : c.code = cc) (hml : c.maxLocals = ls.size) (hts : ∀ w ∈ Ts, w.before args s = true) (hG : ∀ w ∈ pm_G, w ∈ Ts) (hown : s.vm.findClass (pm_on ow) = some m.cls) (hK : va_K D pm_cl (pm_tys cy) s) (hP : va_P D pm_cl (pm_W cy rho sw h) H) (hD : va_D A (pm_W cy rho sw h)) (hS : va_S A s.heap H locs) (hR : 1 ≤ R.frames ∧ 40 ≤ R.locals)
    {i : Instr} (hdg : decode cc pc = .ok (i, pm_ln i)) (hr : pm_cpy i sw ow h S = some (h', S'))
    (k : ∀ (H1 : Heap) (locs1 : List Loc), va_P D pm_cl (pm_W cy rho sw h') H1 → va_D A (pm_W cy rho sw h') → va_S A s.heap H1 locs1 → W p l e R s m args below meth c H1 locs1 cells slots Q (F0 m (pc + 3) ls (pm_cS rho S'))) : W p l e R s m args below meth c H locs cells slots Q (F0 m pc ls (pm_cS rho S)) := by
  unfold pm_cpy at hr
  split at hr
  · split at hr
    · rename_i idx _ n dp b sp a S1
      obtain ⟨hg, he⟩ := pm_bif hr
      cases he
      obtain ⟨g1, g2⟩ := Bool.and_eq_true_iff.mp hg
      obtain ⟨g3, g4⟩ := Bool.and_eq_true_iff.mp g1
      obtain ⟨g5, g6⟩ := Bool.and_eq_true_iff.mp g4
      obtain ⟨g7, g8⟩ := Bool.and_eq_true_iff.mp g6
      obtain ⟨g9, g10⟩ := Bool.and_eq_true_iff.mp g2
      obtain ⟨g11, g12⟩ := Bool.and_eq_true_iff.mp g9
      obtain ⟨g13, g14⟩ := Bool.and_eq_true_iff.mp g12
      obtain ⟨g15, g16⟩ := Bool.and_eq_true_iff.mp g10
      obtain ⟨g17, g18⟩ := Bool.and_eq_true_iff.mp g15
      obtain ⟨g19, g20⟩ := Bool.and_eq_true_iff.mp g16
      have g11 := of_decide_eq_false (pm_not g11)
      have g13 := of_decide_eq_false (pm_not g13)
      have g14 := of_decide_eq_false (pm_not g14)
      have g20 := Nat.le_of_ble_eq_true g20
      have hal := pm_blt g5
      have hbl := pm_blt g7
      have hsh := Nat.eq_of_beq_eq_true g8
      obtain ⟨q, hq1, hq2⟩ := List.any_eq_true.mp g3
      obtain ⟨hq3, hq4⟩ := Bool.and_eq_true_iff.mp hq2
      have hq3 := Nat.eq_of_beq_eq_true hq3
      have hq4 := Nat.eq_of_beq_eq_true hq4
      have hlink : Cond.methodLink (pm_on ow) idx arraycopyName ∈ pm_G := by
        have := pm_mem (List.all_eq_true.mp pm_ac_all q hq1)
        rw [hq3, hq4] at this
        exact this
      obtain ⟨w1, w2⟩ := Bool.and_eq_true_iff.mp pm_ac_w
      obtain ⟨w3, w4⟩ := Bool.and_eq_true_iff.mp w2
      have ha := pm_W_at (cy := cy) (rho := rho) (h := h) hal
      have hb' := pm_W_at (cy := cy) (rho := rho) (h := h) hbl
      have hbut : pm_but b h (va_up h.1 b (va_cpy (h.1 a) (h.1 b) sp.toNatClampNeg dp.toNatClampNeg n.toNatClampNeg), h.2.1, h.2.2) := fun j hj => ⟨va_up_ne _ _ hj, rfl, rfl⟩
      have hset : ∀ en, en = pm_E cy rho (va_up h.1 b (va_cpy (h.1 a) (h.1 b) sp.toNatClampNeg dp.toNatClampNeg n.toNatClampNeg), h.2.1, h.2.2) (pm_sh sw b) b → (pm_W cy rho sw h).set b (rho b, en) = pm_W cy rho sw (va_up h.1 b (va_cpy (h.1 a) (h.1 b) sp.toNatClampNeg dp.toNatClampNeg n.toNatClampNeg), h.2.1, h.2.2) := fun en hen => pm_W_set hbut hbl hen
      have hloc : ((pm_cS rho S').map fun v => v.category).sum + (nativeFrameWords "java/lang/System" "arraycopy" 5 + 11) ≤ R.locals := by
        rw [pm_cats_c]
        have : nativeFrameWords "java/lang/System" "arraycopy" 5 = 7 := by decide
        rw [this]
        omega
      generalize pm_sh sw a = sha at *
      generalize pm_sh sw b = shb at *
      obtain ⟨ka, na⟩ := sha
      obtain ⟨kb, nb⟩ := shb
      dsimp only at hsh g17 g18 g19
      subst hsh
      rcases Bool.or_eq_true_iff.mp g19 with hk | hk
      · have hk := Nat.eq_of_beq_eq_true hk
        subst hk
        refine va_copyi hx hb hml hown (hts _ (hG _ hlink)) (hts _ (hG _ (pm_mem w1))) (hts _ (hG _ (pm_mem w3))) (hts _ (hG _ (pm_mem w4))) hK hP hD hS a b 1 1 ha hb' rfl rfl rfl g11 g13 g14 (Nat.le_of_ble_eq_true g17) (Nat.le_of_ble_eq_true g18) (fun _ _ => rfl) hR.1 hloc hdg (fun H1 locs1 hP1 hD1 hS1 => ?_)
        rw [hset _ (by show _ = Sum.inl (cy 1, nb, Sum.inl (va_up h.1 b _ b)); rw [va_up_self])] at hP1 hD1
        exact k H1 locs1 hP1 hD1 hS1
      · obtain ⟨hk, hfit⟩ := Bool.and_eq_true_iff.mp hk
        have hk := Nat.eq_of_beq_eq_true hk
        subst hk
        refine va_copyi hx hb hml hown (hts _ (hG _ hlink)) (hts _ (hG _ (pm_mem w1))) (hts _ (hG _ (pm_mem w3))) (hts _ (hG _ (pm_mem w4))) hK hP hD hS a b 2 2 ha hb' rfl rfl rfl g11 g13 g14 (Nat.le_of_ble_eq_true g17) (Nat.le_of_ble_eq_true g18) (fun i hi => List.all_eq_true.mp hfit i (List.mem_range.mpr hi)) hR.1 hloc hdg (fun H1 locs1 hP1 hD1 hS1 => ?_)
        rw [hset _ (by show _ = Sum.inl (cy 2, nb, Sum.inl (va_up h.1 b _ b)); rw [va_up_self])] at hP1 hD1
        exact k H1 locs1 hP1 hD1 hS1
    · cases hr
  · cases hr
theorem pm_rcv_t {s : State} {H : Heap} {locs : List Loc} {A : Nat → Prop} {h : pm_H} {a o : Nat} (hr : pm_rcv sw a o = true) (hK : va_K D pm_cl (pm_tys cy) s) (hP : va_P D pm_cl (pm_W cy rho sw h) H) (hS : va_S A s.heap H locs) (hKS : pm_KS rho A s s.heap) : ∃ cell : Cell, H[rho a]? = some cell ∧ cell.vm.isStatics = false ∧ s.vm.findClass (pm_on o) = some cell.cls := by
  unfold pm_rcv at hr
  cases ha : Nat.blt a 1000 with
  | true =>
    rw [ha] at hr
    obtain ⟨h1, h2⟩ := Bool.and_eq_true_iff.mp hr
    have ho := pm_blt h1
    obtain ⟨hal, hsh⟩ := pm_isO_t h2
    have h3 := va_recv hK hP (pm_cl_at ho) ((pm_W_at hal).trans (by rw [pm_E_O hsh]))
    have h4 : (pm_clN o).1 = pm_on o := by
      match o, ho with
      | 0, _ => rfl
      | 1, _ => rfl
      | 2, _ => rfl
      | 3, _ => rfl
      | 4, _ => rfl
      | 5, _ => rfl
      | 6, _ => rfl
    rw [h4] at h3
    exact h3
  | false =>
    rw [ha] at hr
    dsimp only [cond] at hr
    cases ho : Nat.beq o 7 with
    | false =>
      rw [ho] at hr
      dsimp only [cond] at hr
      cases ho8 : Nat.beq o 8 with
      | false => rw [ho8] at hr; cases hr
      | true =>
        rw [ho8] at hr
        have ho8 := Nat.eq_of_beq_eq_true ho8
        subst ho8
        obtain ⟨g1, g2⟩ := Bool.and_eq_true_iff.mp hr
        obtain ⟨cell, q1, q2, q3, q4⟩ := (hKS.2.1 (a, "java/lang/String") (pm_kob_str (Nat.le_of_ble_eq_true g1) (pm_blt g2))).kept hS.2.1
        exact ⟨cell, q1, q2, q3⟩
    | true =>
      rw [ho] at hr
      have ho := Nat.eq_of_beq_eq_true ho
      subst ho
      have h1 : 1000 ≤ a := by
        rcases Nat.lt_or_ge a 1000 with h | h
        · have : Nat.blt a 1000 = true := Nat.ble_eq_true_of_le h
          rw [this] at ha
          cases ha
        · exact h
      obtain ⟨cell, q1, q2, q3, q4⟩ := (hKS.2.1 (a, "QuietChecker$Kind") (pm_kob_kind h1 (pm_blt hr))).kept hS.2.1
      exact ⟨cell, q1, q2, q3⟩
theorem pm_blind {as : List Value} {h : pm_H} {sz : Nat} : FrameBlind (va_Pc (pm_cS rho as) (pm_B rho D cy sw h sz)) := by
  intro a U g mk q
  obtain ⟨h1, h2, h3, h4, h5, h6⟩ := q
  exact ⟨h1, h2, h3, va_K.moved (u := U) (U := U.calling g mk a) (Vm.Alike.refl U.vm) h4, h5, pm_KS.same (u := U) (U := U.calling g mk a) rfl h6⟩
set_option maxHeartbeats 4000000 in
theorem pm_body (hinj : ∀ a b, pm_kc a = true → pm_kc b = true → rho a = rho b → a = b) (hprim : ∀ (mj : Nat) (as : List Value) (v : Value), pm_prim mj as = some v → ∀ (h : pm_H) (sz : Nat), Met l (pm_nm mj) (pm_ws mj) (pm_rm 4) (va_Pc (pm_cS rho as) (pm_B rho D cy sw h sz)) (pm_Q rho D cy sw h sz (some v) h) 0 0 (va_A (pm_W cy rho sw h) sz)) : ∀ n, pm_Bd l rho D cy sw n := by
  intro n
  induction n with
  | zero => intro d mi pc L S h v h' hrun; cases hrun
  | succ n ih =>
    intro d mi pc L S h v h' hrun hmi p e s m args below meth c H locs ls A Qc hx hb hml hown hts hrt hlk hK hP hD hS hA hKS hl hQ
    unfold pm_run at hrun
    have hG : ∀ w ∈ pm_G, w ∈ pm_ws mi := fun w hw => List.mem_cons_of_mem _ hw
    cases hst : pm_step sw mi pc L S h with
    | none =>
      rw [hst] at hrun
      dsimp only at hrun
      cases hfd : pm_fd (pm_code mi) pc with
      | none => rw [hfd] at hrun; cases hrun
      | some i =>
        rw [hfd] at hrun
        dsimp only at hrun
        obtain ⟨len, hdec, hlen⟩ := pm_decode hfd
        cases h9 : pm_cpy i sw (pm_ow mi) h S with
        | none => rw [h9] at hrun; cases hrun
        | some q =>
          obtain ⟨h9', S1⟩ := q
          rw [h9] at hrun
          dsimp only at hrun
          cases hd : Nat.blt 0 d with
          | false => rw [hd] at hrun; cases hrun
          | true =>
            rw [hd] at hrun
            have hd := pm_blt hd
            have hdg : decode (pm_by mi) pc = .ok (i, pm_ln i) := by
              rcases hlen with h1 | h1
              · unfold pm_cpy at h9; split at h9 <;> first | cases h1 | cases h9
              · rw [hdec, h1]
            exact pm_cpy_snd hx hb (hml.trans hl.1.symm) hts hG hown hK hP hD hS ⟨hd, by show 40 ≤ d * 40; omega⟩ hdg h9 (fun H1 locs1 hP1 hD1 hS1 => ih _ _ _ _ _ _ _ _ hrun hmi p e s m args below meth c H1 locs1 ls A Qc hx hb hml hown hts hrt hlk hK hP1 hD1 hS1 hA hKS hl hQ)
    | some r =>
      rw [hst] at hrun
      unfold pm_step at hst
      cases hfd : pm_fd (pm_code mi) pc with
      | none => rw [hfd] at hst; cases hst
      | some i =>
        rw [hfd] at hst
        dsimp only at hst
        obtain ⟨len, hdec, hlen⟩ := pm_decode hfd
        have hd1 : pm_ln i ≠ 0 → decode (pm_by mi) pc = .ok (i, pm_ln i) := fun z => by
          rcases hlen with h1 | h1
          · exact absurd h1 z
          · rw [hdec, h1]
        cases h1 : pm_push i L with
        | some v1 =>
          rw [h1] at hst
          cases hst
          exact pm_push_snd hx hb (hd1 (fun z => by unfold pm_push at h1; split at h1 <;> first | cases z | cases h1)) hl h1 (ih _ _ _ _ _ _ _ _ hrun hmi p e s m args below meth c H locs ls A Qc hx hb hml hown hts hrt hlk hK hP hD hS hA hKS hl hQ)
        | none =>
          rw [h1] at hst
          dsimp only at hst
          cases h2 : pm_ari i S with
          | some S1 =>
            rw [h2] at hst
            cases hst
            exact pm_ari_snd hx hb (hd1 (fun z => by unfold pm_ari at h2; split at h2 <;> first | cases z | cases h2)) h2 (ih _ _ _ _ _ _ _ _ hrun hmi p e s m args below meth c H locs ls A Qc hx hb hml hown hts hrt hlk hK hP hD hS hA hKS hl hQ)
          | none =>
            rw [h2] at hst
            dsimp only at hst
            cases h3 : pm_br i pc S with
            | some q =>
              obtain ⟨pc1, S1⟩ := q
              rw [h3] at hst
              cases hst
              exact pm_br_snd hx hb hdec hlen hinj h3 (ih _ _ _ _ _ _ _ _ hrun hmi p e s m args below meth c H locs ls A Qc hx hb hml hown hts hrt hlk hK hP hD hS hA hKS hl hQ)
            | none =>
              rw [h3] at hst
              dsimp only at hst
              cases h4 : pm_sto i (pm_mx mi) L S with
              | some q =>
                obtain ⟨L1, S1⟩ := q
                rw [h4] at hst
                cases hst
                exact pm_sto_snd hx hb (hd1 (fun z => by unfold pm_sto at h4; split at h4 <;> first | cases z | cases h4)) hl h4 (fun ls' hl' => ih _ _ _ _ _ _ _ _ hrun hmi p e s m args below meth c H locs ls' A Qc hx hb hml hown hts hrt hlk hK hP hD hS hA hKS hl' hQ)
              | none =>
                rw [h4] at hst
                dsimp only at hst
                cases h5 : pm_read i sw (pm_ow mi) h S with
                | some S1 =>
                  rw [h5] at hst
                  cases hst
                  exact pm_read_snd hx hb hts hG hown hK hP hS hKS (hd1 (pm_read_ln h5)) h5 (ih _ _ _ _ _ _ _ _ hrun hmi p e s m args below meth c H locs ls A Qc hx hb hml hown hts hrt hlk hK hP hD hS hA hKS hl hQ)
                | none =>
                  rw [h5] at hst
                  dsimp only at hst
                  cases h6 : pm_write i sw (pm_ow mi) h S with
                  | some q =>
                    obtain ⟨h1', S1⟩ := q
                    rw [h6] at hst
                    cases hst
                    exact pm_write_snd hx hb hts hG hown hK hP hD hS hKS (hd1 (fun z => by unfold pm_write at h6; split at h6 <;> first | cases z | cases h6)) h6 (fun H1 locs1 hP1 hD1 hS1 => ih _ _ _ _ _ _ _ _ hrun hmi p e s m args below meth c H1 locs1 ls A Qc hx hb hml hown hts hrt hlk hK hP1 hD1 hS1 hA hKS hl hQ)
                  | none =>
                    rw [h6] at hst
                    dsimp only at hst
                    cases h7 : pm_ret i (pm_rt mi) S with
                    | some w =>
                      rw [h7] at hst
                      cases hst
                      cases hrun
                      have hdg := hd1 (fun z => by unfold pm_ret at h7; split at h7 <;> first | cases z | cases h7)
                      unfold pm_ret at h7
                      split at h7
                      · split at h7
                        · split at h7
                          · rename_i x _ ert
                            cases h7
                            exact W.iret hx hb (hrt.trans ert) (fun t ht hW => hQ t locs hW (by rw [ht]; exact hP) hD (by rw [ht]; exact hS)) hS.2.2 hdg hlk
                          · rename_i x _ ert
                            split at h7
                            · rename_i h01
                              cases h7
                              exact W.zret hx hb (hrt.trans ert) (by rcases h01 with rfl | rfl <;> decide) (fun t ht hW => hQ t locs hW (by rw [ht]; exact hP) hD (by rw [ht]; exact hS)) hS.2.2 hdg hlk
                            · cases h7
                          · rename_i x _ ert
                            split at h7
                            · rename_i hch
                              cases h7
                              exact W.zret hx hb (hrt.trans ert) (by show Value.int (vp_nar .char x) = _; rw [hch]) (fun t ht hW => hQ t locs hW (by rw [ht]; exact hP) hD (by rw [ht]; exact hS)) hS.2.2 hdg hlk
                            · cases h7
                          · rename_i x _ ert
                            split at h7
                            · rename_i hch
                              cases h7
                              exact W.zret hx hb (hrt.trans ert) (by show Value.int (vp_nar .byte x) = _; rw [hch]) (fun t ht hW => hQ t locs hW (by rw [ht]; exact hP) hD (by rw [ht]; exact hS)) hS.2.2 hdg hlk
                            · cases h7
                          · cases h7
                        · cases h7
                      · split at h7
                        · split at h7
                          · rename_i _ ert
                            cases h7
                            exact W.vret hx hb (hrt.trans ert) (fun t ht hW => hQ t locs hW (by rw [ht]; exact hP) hD (by rw [ht]; exact hS)) hS.2.2 hdg hlk
                          · cases h7
                        · cases h7
                      · split at h7
                        · split at h7
                          · rename_i a _ nm ert
                            cases h7
                            exact W.aret hx hb (hrt.trans ert) (Or.inl ⟨_, rfl⟩) (Or.inr ⟨_, rfl⟩) (fun t ht hW => hQ t locs hW (by rw [ht]; exact hP) hD (by rw [ht]; exact hS)) hS.2.2 hdg hlk
                          · rename_i a _ nm ert
                            cases h7
                            exact W.aret hx hb (hrt.trans ert) (Or.inr ⟨_, rfl⟩) (Or.inr ⟨_, rfl⟩) (fun t ht hW => hQ t locs hW (by rw [ht]; exact hP) hD (by rw [ht]; exact hS)) hS.2.2 hdg hlk
                          · cases h7
                        · cases h7
                      · cases h7
                    | none =>
                      rw [h7] at hst
                      dsimp only at hst
                      cases h8 : pm_call i sw (pm_ow mi) S with
                      | none => rw [h8] at hst; cases hst
                      | some q =>
                        obtain ⟨mj, as, S1⟩ := q
                        rw [h8] at hst
                        cases hst
                        dsimp only at hrun
                        cases d with
                        | zero => cases hrun
                        | succ d =>
                          dsimp only at hrun
                          have hcal : ∃ (d2 : Nat) (v2 : Option Value) (h2' : pm_H), d2 ≤ d ∧ ((lg_sl as).length ≤ pm_mx mj → mj < 173 → ∀ sz, Met l (pm_nm mj) (pm_ws mj) (pm_rm d2) (va_Pc (pm_cS rho as) (pm_B rho D cy sw h sz)) (pm_Q rho D cy sw h sz v2 h2') 0 0 (va_A (pm_W cy rho sw h) sz)) ∧ pm_run sw n (d + 1) mi (pc + 3) L (v2.toList ++ S1) h2' = some (v, h') := by
                            cases hpr : pm_prim mj as with
                            | some v2 =>
                              rw [hpr] at hrun
                              dsimp only at hrun
                              cases hd4 : Nat.ble 4 d with
                              | false => rw [hd4] at hrun; cases hrun
                              | true =>
                                rw [hd4] at hrun
                                exact ⟨4, some v2, h, Nat.le_of_ble_eq_true hd4, fun _ _ sz => hprim mj as v2 hpr h sz, hrun⟩
                            | none =>
                              rw [hpr] at hrun
                              dsimp only at hrun
                              cases hcal : pm_run sw n d mj 0 (lv_args 0 as) [] h with
                              | none => rw [hcal] at hrun; cases hrun
                              | some r2 =>
                                obtain ⟨v2, h2'⟩ := r2
                                rw [hcal] at hrun
                                exact ⟨d, v2, h2', Nat.le_refl _, fun hfit hj sz => pm_met_of ih hcal hj hfit sz, hrun⟩
                          clear hrun
                          obtain ⟨d2, v2, h2', hd2, hMet, hrun⟩ := hcal
                          have hFc : ∀ q, va_A (pm_W cy rho sw h) H.size q → A q := by
                            intro q hq
                            rcases hq with ⟨k, en, hk⟩ | hq
                            · exact hD.2 k _ hk
                            · exact hA q (Nat.le_trans hS.1 hq)
                          have hKS1 : pm_KS rho (va_A (pm_W cy rho sw h) H.size) s H := (hKS.kept hS.2.1).narrow hFc
                          have hpre : ∀ U : State, U.heap = H → s.WarmedH U.vm → pm_B rho D cy sw h H.size U := by
                            intro U hU hW
                            refine ⟨by rw [hU], by rw [hU]; exact hP, va_K.moved hW.alike hK, hD.weaken (fun _ _ _ _ => trivial), ?_⟩
                            rw [hU]
                            exact pm_KS.moved hW hKS1
                          have hdg := hd1 (fun z => by unfold pm_call at h8; split at h8 <;> first | cases z | cases h8)
                          have hfin : ∀ (mj : Nat) (as S1 : List Value) (st0 : List Value) (a0 : Array Value), mj < 173 → va_Run p l e (pm_rm (d + 1)) s m args below meth c H locs 0 0 0 0 (F0 m pc ls st0) (pm_cS rho S1) (pm_Q rho D cy sw h H.size v2 h2' a0) (va_A (pm_W cy rho sw h) H.size) → pm_run sw n (d + 1) mi (pc + 3) L (v2.toList ++ S1) h2' = some (v, h') → W p l e (pm_rm (d + 1)) s m args below meth c H locs 0 0 (MQ below Qc args s 0 0 A) (F0 m pc ls st0) := by
                            intro mj as S1 st0 a0 hj hr hrun
                            refine pm_callk (B := fun t => va_P D pm_cl (pm_W cy rho sw h2') t.heap ∧ va_D (va_A (pm_W cy rho sw h) H.size) (pm_W cy rho sw h2')) (A1 := va_A (pm_W cy rho sw h) H.size) (v0 := v2.map (pm_cv rho)) hr ?_ hS (fun q _ z => hFc q z) hFc ?_
                            · intro st w t hq
                              obtain ⟨q1, q2, q3⟩ := hq
                              exact ⟨Outcome.returned.inj q1, q2, q3⟩
                            · intro t locs1 hBt hS1
                              rw [pm_toList_c, ← pm_cS_app]
                              exact ih _ _ _ _ _ _ _ _ hrun hmi p e s m args below meth c t.heap locs1 ls A Qc hx hb hml hown hts hrt hlk hK hBt.1 (hBt.2.weaken (fun _ q _ z => hFc q.1 z)) hS1 hA hKS hl hQ
                          have hcb : ∀ (idx mj : Nat), pm_iv (pm_ow mi) idx = some mj → mj < 173 ∧ CallB (pm_rm (d + 1)) s args (pm_on (pm_ow mi)) idx (pm_nm mj) (pm_by mj) (pm_mx mj) (pm_rt mj) (pm_ws mj) (pm_rm d2) 0 0 (pm_np mj) := by
                            intro idx mj hiv
                            obtain ⟨hj, hlink⟩ := pm_iv_ok hiv
                            have hcls : (pm_nm mj).cls = pm_on (pm_ow mj) := of_decide_eq_true (List.all_eq_true.mp pm_mC mj (List.mem_range.mpr hj))
                            obtain ⟨n1, n2⟩ := Bool.and_eq_true_iff.mp (List.all_eq_true.mp pm_mG mj (List.mem_range.mpr hj))
                            have hini : Cond.initialized (pm_on (pm_ow mj)) ∈ pm_G := pm_mem (List.all_eq_true.mp pm_mB mj (List.mem_range.mpr hj))
                            have hmx : pm_mx mj ≤ 20 := Nat.le_of_ble_eq_true (List.all_eq_true.mp pm_mF mj (List.mem_range.mpr hj))
                            exact ⟨hj, callB_of (pm_np mj) hts (pm_goodIn hj) rfl rfl rfl (by rw [hcls]; exact hts _ (hG _ hini)) (hts _ (hG _ hlink)) ⟨of_decide_eq_true n1, of_decide_eq_true n2, of_decide_eq_true (List.all_eq_true.mp pm_mD mj (List.mem_range.mpr hj))⟩ ⟨Nat.succ_le_succ hd2, by show 8 + (pm_mx mj + 11) + d2 * 40 ≤ (d + 1) * 40; omega⟩⟩
                          unfold pm_call at h8
                          split at h8
                          · split at h8
                            · rename_i idx _ mj0 hiv
                              split at h8
                              · rename_i _ a S2 hdr
                                obtain ⟨hg, he⟩ := pm_bif h8
                                cases he
                                obtain ⟨g1, g2⟩ := Bool.and_eq_true_iff.mp hg
                                obtain ⟨g3, g4⟩ := Bool.and_eq_true_iff.mp g2
                                obtain ⟨g5, g6⟩ := Bool.and_eq_true_iff.mp g4
                                obtain ⟨g7, g8⟩ := Bool.and_eq_true_iff.mp g6
                                obtain ⟨hj, cb⟩ := hcb idx mj hiv
                                have hM := hMet (Nat.le_of_ble_eq_true g8) hj H.size
                                have hA1 := pm_mA_at hj
                                unfold pm_mA at hA1
                                have hsc : pm_sc mj = false := by
                                  cases hz : pm_sc mj with
                                  | false => rfl
                                  | true => rw [hz] at g1; cases g1
                                rw [hsc] at hA1
                                obtain ⟨w1, w2⟩ := Bool.and_eq_true_iff.mp hA1
                                have hcls : (pm_nm mj).cls = pm_on (pm_ow mj) := of_decide_eq_true (List.all_eq_true.mp pm_mC mj (List.mem_range.mpr hj))
                                have hS0 : S = S.take (pm_np mj) ++ .ref a :: S1 := by
                                  have := (List.take_append_drop (pm_np mj) S).symm
                                  rw [hdr] at this
                                  exact this
                                refine hfin mj [] S1 _ _ hj (va_runV (C := pm_on (pm_ow mj)) (b := rho a) (As := pm_cS rho (S.take (pm_np mj)).reverse) (rest := pm_cS rho S1) ⟨hx, hb, hml, hown, hts⟩ hM ⟨cb, hts _ (hG _ (pm_mem w1)), hts _ (hG _ (pm_mem w2))⟩ ⟨pm_blind, pm_rcv_t g5 hK hP hS hKS, fun U hU hW => ⟨rfl, hpre U hU hW⟩⟩ rfl ?_ hl.1 ?_ (lv_room ?_) hdg ⟨Nat.le_refl _, Nat.le_refl _⟩) hrun
                                · show (pm_cS rho (S.take (pm_np mj)).reverse).length = _
                                  unfold pm_cS
                                  rw [List.length_map, List.length_reverse]
                                  exact Nat.eq_of_beq_eq_true g3
                                · show pm_cS rho S = (pm_cS rho (S.take (pm_np mj)).reverse).reverse ++ .ref (rho a) :: pm_cS rho S1
                                  rw [pm_cS_rev, List.reverse_reverse]
                                  calc pm_cS rho S = pm_cS rho (S.take (pm_np mj) ++ .ref a :: S1) := by rw [← hS0]
                                    _ = _ := pm_cS_app rho _ _
                                · rw [pm_cats_c]
                                  exact Nat.le_of_ble_eq_true g7
                              · cases h8
                            · cases h8
                          · split at h8
                            · rename_i idx _ mj0 hiv
                              obtain ⟨hg, he⟩ := pm_bif h8
                              cases he
                              obtain ⟨g1, g2⟩ := Bool.and_eq_true_iff.mp hg
                              obtain ⟨g3, g4⟩ := Bool.and_eq_true_iff.mp g2
                              obtain ⟨g7, g8⟩ := Bool.and_eq_true_iff.mp g4
                              obtain ⟨hj, cb⟩ := hcb idx mj hiv
                              have hM := hMet (Nat.le_of_ble_eq_true g8) hj H.size
                              have hA1 := pm_mA_at hj
                              unfold pm_mA at hA1
                              rw [g1] at hA1
                              have hS0 : S = S.take (pm_np mj) ++ S.drop (pm_np mj) := (List.take_append_drop (pm_np mj) S).symm
                              refine hfin mj [] (S.drop (pm_np mj)) _ _ hj (va_runS (As := pm_cS rho (S.take (pm_np mj)).reverse) (rest := pm_cS rho (S.drop (pm_np mj))) ⟨hx, hb, hml, hown, hts⟩ hM ⟨cb, hts _ (hG _ (pm_mem hA1))⟩ ⟨pm_blind, fun U hU hW => ⟨rfl, hpre U hU hW⟩⟩ rfl ?_ hl.1 ?_ (lv_room ?_) hdg ⟨Nat.le_refl _, Nat.le_refl _⟩) hrun
                              · show (pm_cS rho (S.take (pm_np mj)).reverse).length = _
                                unfold pm_cS
                                rw [List.length_map, List.length_reverse]
                                exact Nat.eq_of_beq_eq_true g3
                              · show pm_cS rho S = (pm_cS rho (S.take (pm_np mj)).reverse).reverse ++ pm_cS rho (S.drop (pm_np mj))
                                rw [pm_cS_rev, List.reverse_reverse]
                                calc pm_cS rho S = pm_cS rho (S.take (pm_np mj) ++ S.drop (pm_np mj)) := by rw [← hS0]
                                  _ = _ := pm_cS_app rho _ _
                              · rw [pm_cats_c]
                                exact Nat.le_of_ble_eq_true g7
                            · cases h8
                          · cases h8
/-- a method's contract out of its run -/
theorem pm_met (hinj : ∀ a b, pm_kc a = true → pm_kc b = true → rho a = rho b → a = b) (hprim : ∀ (mj : Nat) (as : List Value) (v : Value), pm_prim mj as = some v → ∀ (h : pm_H) (sz : Nat), Met l (pm_nm mj) (pm_ws mj) (pm_rm 4) (va_Pc (pm_cS rho as) (pm_B rho D cy sw h sz)) (pm_Q rho D cy sw h sz (some v) h) 0 0 (va_A (pm_W cy rho sw h) sz)) {n d mj : Nat} {as : List Value} {h h' : pm_H} {v : Option Value} (hrun : pm_run sw n d mj 0 (lv_args 0 as) [] h = some (v, h')) (hj : mj < 173) (hfit : (lg_sl as).length ≤ pm_mx mj) (sz : Nat) :
    Met l (pm_nm mj) (pm_ws mj) (pm_rm d) (va_Pc (pm_cS rho as) (pm_B rho D cy sw h sz)) (pm_Q rho D cy sw h sz v h') 0 0 (va_A (pm_W cy rho sw h) sz) := pm_met_of (pm_body hinj hprim n) hrun hj hfit sz
end PM8
