def pn_rm (d mc ms : Nat) : Room := { frames := d, cells := mc, slots := ms, locals := d * 40 }
theorem pn_mk_400 {i : Instr} {ci : Nat} {sw : List (Nat × Nat)} {S S1 : List Value} {sh : Nat × Nat} (h8 : pn_mk i ci sw S = some (sh, S1)) : sw.length < 400 := by
  unfold pn_mk at h8
  split at h8
  · split at h8
    · obtain ⟨hg, -⟩ := pm_bif h8
      exact pm_blt (Bool.and_eq_true_iff.mp hg).2
    · cases h8
  · split at h8
    · obtain ⟨hg, -⟩ := pm_bif h8
      exact pm_blt (Bool.and_eq_true_iff.mp (Bool.and_eq_true_iff.mp hg).2).1
    · cases h8
  · split at h8
    · split at h8
      · obtain ⟨hg, -⟩ := pm_bif h8
        exact pm_blt (Bool.and_eq_true_iff.mp (Bool.and_eq_true_iff.mp hg).2).2
      · cases h8
    · cases h8
  · cases h8
theorem pn_le400 : ∀ (n d ci pc : Nat) (L : pm_L) (S : List Value) (sw : List (Nat × Nat)) (h : pm_H) (sw' : List (Nat × Nat)) (h' : pm_H), pn_run n d ci pc L S sw h = some (sw', h') → sw.length ≤ 400 → sw'.length ≤ 400 := by
  intro n
  induction n with
  | zero => intro d ci pc L S sw h sw' h' hr; cases hr
  | succ n ih =>
    intro d ci pc L S sw h sw' h' hr h4
    unfold pn_run at hr
    split at hr
    · cases hr
    split at hr
    · exact ih _ _ _ _ _ _ _ _ _ hr h4
    split at hr
    · exact ih _ _ _ _ _ _ _ _ _ hr h4
    split at hr
    · exact ih _ _ _ _ _ _ _ _ _ hr h4
    split at hr
    · exact ih _ _ _ _ _ _ _ _ _ hr h4
    split at hr
    · exact ih _ _ _ _ _ _ _ _ _ hr h4
    split at hr
    · rename_i hmk
      exact ih _ _ _ _ _ _ _ _ _ hr (by rw [List.length_append]; exact pn_mk_400 hmk)
    split at hr
    · split at hr
      · cases hr; exact h4
      · cases hr
    · split at hr
      · split at hr
        · cases hr
        · rename_i cj _ _ d'
          cases hb : Nat.beq cj 7 with
          | true =>
            rw [hb] at hr
            dsimp only [cond] at hr
            split at hr
            · exact ih _ _ _ _ _ _ _ _ _ (pm_bifR hr).2 h4
            · cases hr
          | false =>
            rw [hb] at hr
            dsimp only [cond] at hr
            split at hr
            · have hr := (pm_bifR hr).2
              split at hr
              · rename_i sw2 h2 hc
                exact ih _ _ _ _ _ _ _ _ _ hr (ih _ _ _ _ _ _ _ _ _ hc h4)
              · cases hr
            · cases hr
      · cases hr
    · cases hr
theorem pn_rho_add {rho : Nat → Nat} (hrho : ∀ i, i < 400 → rho (i + 1) = rho i + 1) (n : Nat) : ∀ k, n + k ≤ 400 → rho (n + k) = rho n + k := by
  intro k
  induction k with
  | zero => intro _; rfl
  | succ k ih =>
    intro hk
    rw [show n + (k + 1) = n + k + 1 by omega, hrho _ (by omega), ih (by omega)]
    omega
section PN3
variable {l : Launch} {rho : Nat → Nat} {D : va_G} {cy : Nat → ClassId}
def pn_Bd (l : Launch) (rho : Nat → Nat) (D : va_G) (cy : Nat → ClassId) (n : Nat) : Prop :=
  ∀ (d ci pc : Nat) (L : pm_L) (S : List Value) (sw : List (Nat × Nat)) (h : pm_H) (sw' : List (Nat × Nat)) (h' : pm_H), pn_run n d ci pc L S sw h = some (sw', h') → ci < 7 → 0 < sw.length → sw.length ≤ 400 →
  ∀ (p : Program) (e : Env) (s : State) (m : MethodId) (args : Array Value) (below : List Frame) (meth : Method) (c : Code) (H : Heap) (locs : List Loc) (ls : Array Slot) (A : Nat → Prop) (Qc : Array Value → State → Outcome → State → Prop) (cells slots mc ms : Nat),
  p.tables.exec = Jvm.exec → c.code = pn_by ci → c.maxLocals = pn_mx ci → s.vm.findClass (pm_on ci) = some m.cls → (∀ w ∈ pn_ws ci, w.before args s = true) → meth.sig.returnType = none → meth.locks = false → meth.name = "<init>" →
  va_K D pm_cl (pm_tys cy) s → va_P D pm_cl (pm_W cy rho sw h) H → va_D A (pm_W cy rho sw h) → va_S A s.heap H locs → (∀ q, s.heap.size ≤ q → A q) → pm_KS rho A s s.heap → va_AO "QuietChecker$Kind" s → lv_has ls (pn_mx ci) (pm_cL rho L) →
  rho sw.length = s.heap.size + cells → cells + (sw'.length - sw.length) = mc → slots + (pn_tot sw' - pn_tot sw) = ms →
  (∀ (t : State) (locs1 : List Loc), s.WarmedH t.vm → va_P D pm_cl (pm_W cy rho sw' h') t.heap → va_D A (pm_W cy rho sw' h') → va_S A s.heap t.heap locs1 → Qc args s (.returned none) t) →
  W p l e (pn_rm d mc ms) s m args below meth c H locs cells slots (MQ below Qc args s mc ms A) (F0 m pc ls (pm_cS rho S))
/-- before a constructor, and behind it -/
def pn_B (rho : Nat → Nat) (D : va_G) (cy : Nat → ClassId) (sw : List (Nat × Nat)) (h : pm_H) (U : State) : Prop := pm_B rho D cy sw h (rho sw.length) U ∧ va_AO "QuietChecker$Kind" U
def pn_Q (rho : Nat → Nat) (D : va_G) (cy : Nat → ClassId) (sw : List (Nat × Nat)) (h : pm_H) (sw' : List (Nat × Nat)) (h' : pm_H) : Array Value → State → Outcome → State → Prop := fun _ st o t =>
  o = .returned none ∧ (va_P D pm_cl (pm_W cy rho sw' h') t.heap ∧ va_D (va_A (pm_W cy rho sw h) (rho sw.length)) (pm_W cy rho sw' h')) ∧ va_F (va_A (pm_W cy rho sw h) (rho sw.length)) st t
theorem pn_met_of {n d cj : Nat} {as : List Value} {sw sw' : List (Nat × Nat)} {h h' : pm_H} (hB : pn_Bd l rho D cy n) (hrun : pn_run n d cj 0 (lv_args 0 as) [] sw h = some (sw', h')) (hj : cj < 7) (hl0 : 0 < sw.length) (h400 : sw.length ≤ 400) (hfit : (lg_sl as).length ≤ pn_mx cj) :
    Met l (pn_nm cj) (pn_ws cj) (pn_rm d (sw'.length - sw.length) (pn_tot sw' - pn_tot sw)) (va_Pc (pm_cS rho as) (pn_B rho D cy sw h)) (pn_Q rho D cy sw h sw' h') (sw'.length - sw.length) (pn_tot sw' - pn_tot sw) (va_A (pm_W cy rho sw h) (rho sw.length)) := by
  have hA1 := List.all_eq_true.mp pn_mA cj (List.mem_range.mpr hj)
  simp only [Bool.and_eq_true, decide_eq_true_eq] at hA1
  obtain ⟨-, -, -, hfor, hcls, hini, -, -, -, -, -⟩ := hA1
  refine pm_ofW (cc := pn_by cj) (maxL := pn_mx cj) (ret := none) hfor rfl ?_
  intro p e s m args below meth c s₁ B hml hv
  obtain ⟨rfl, ⟨hsz, hP, hK, hD0, hKS⟩, hAO⟩ := hv
  have hown : s.vm.findClass (pm_on cj) = some m.cls := by
    rw [← hcls]
    exact findClass_of_methodNamed B.named
  have hin : meth.name = "<init>" := by
    rw [(name_of_methodNamed B.named B.method).1]
    exact hini
  have hl := lv_entry (pm_cS rho as) (n := pn_mx cj) (by rw [pm_sl_len]; exact hfit)
  rw [pm_args_c] at hl
  rw [lg_entry_eq]
  refine hB d cj 0 (lv_args 0 as) [] sw h sw' h' hrun hj hl0 h400 p e s m _ below meth c s.heap [] _ (va_A (pm_W cy rho sw h) (rho sw.length)) _ 0 0 _ _ B.exec B.bytes hml hown (atoms_spec (ws := pn_ws cj) B.pre) B.returns B.notSynchronized hin hK hP hD0.self va_S.rf (fun q hq => Or.inr (by rw [← hsz]; exact hq)) hKS hAO hl (by rw [hsz]; rfl) (by omega) (by omega) ?_
  intro t locs1 _ hP1 hD1 hS1
  exact ⟨rfl, ⟨hP1, hD1⟩, hS1.F rfl⟩
theorem pn_blind {as : List Value} {sw : List (Nat × Nat)} {h : pm_H} : FrameBlind (va_Pc (pm_cS rho as) (pn_B rho D cy sw h)) := by
  intro a U g mk q
  obtain ⟨h1, ⟨h2, h3, h4, h5, h6⟩, h7⟩ := q
  exact ⟨h1, ⟨h2, h3, va_K.moved (u := U) (U := U.calling g mk a) (Vm.Alike.refl U.vm) h4, h5, pm_KS.same (u := U) (U := U.calling g mk a) rfl h6⟩, h7⟩
theorem pn_goodIn {ci cj : Nat} (hj : cj < 7) : GoodIn (pn_ws ci) (pn_ws cj) := by
  intro w hw
  have hw2 : w ∈ pm_G := by
    rcases List.mem_cons.mp hw with rfl | h1
    · exact pn_G_all hj
    · exact h1
  exact ⟨List.mem_cons_of_mem _ hw2, pm_good_G w hw2⟩
set_option maxHeartbeats 4000000 in
theorem pn_body (hrho : ∀ i, i < 400 → rho (i + 1) = rho i + 1) : ∀ n, pn_Bd l rho D cy n := by
  intro n
  induction n with
  | zero => intro d ci pc L S sw h sw' h' hrun; cases hrun
  | succ n ih =>
    intro d ci pc L S sw h sw' h' hrun hci hl0 h400 p e s m args below meth c H locs ls A Qc cells slots mc ms hx hb hml hown hts hrt hlk hin hK hP hD hS hA hKS hAO hl hcnt hmc hms hQ
    have hG : ∀ w ∈ pm_G, w ∈ pn_ws ci := fun w hw => List.mem_cons_of_mem _ hw
    obtain ⟨hmo1, hmo2⟩ := pn_mono _ _ _ _ _ _ _ _ _ _ hrun
    unfold pn_run at hrun
    cases hfd : pm_fd (pn_code ci) pc with
    | none => rw [hfd] at hrun; cases hrun
    | some i =>
      rw [hfd] at hrun
      dsimp only at hrun
      obtain ⟨len, hdec, hlen⟩ := pn_decode hci hfd
      have hd1 : pm_ln i ≠ 0 → decode (pn_by ci) pc = .ok (i, pm_ln i) := fun z => by
        rcases hlen with h1 | h1
        · exact absurd h1 z
        · rw [hdec, h1]
      cases h1 : pm_push i L with
      | some v1 =>
        rw [h1] at hrun
        exact pm_push_snd hx hb (hd1 (fun z => by unfold pm_push at h1; split at h1 <;> first | cases z | cases h1)) hl h1 (ih _ _ _ _ _ _ _ _ _ hrun hci hl0 h400 p e s m args below meth c H locs ls A Qc cells slots mc ms hx hb hml hown hts hrt hlk hin hK hP hD hS hA hKS hAO hl hcnt hmc hms hQ)
      | none =>
        rw [h1] at hrun
        dsimp only at hrun
        cases h2 : pm_ari i S with
        | some S1 =>
          rw [h2] at hrun
          exact pm_ari_snd hx hb (hd1 (fun z => by unfold pm_ari at h2; split at h2 <;> first | cases z | cases h2)) h2 (ih _ _ _ _ _ _ _ _ _ hrun hci hl0 h400 p e s m args below meth c H locs ls A Qc cells slots mc ms hx hb hml hown hts hrt hlk hin hK hP hD hS hA hKS hAO hl hcnt hmc hms hQ)
        | none =>
          rw [h2] at hrun
          dsimp only at hrun
          cases h5 : pm_read i sw ci h S with
          | some S1 =>
            rw [h5] at hrun
            exact pm_read_snd hx hb hts hG hown hK hP hS hKS (hd1 (pm_read_ln h5)) h5 (ih _ _ _ _ _ _ _ _ _ hrun hci hl0 h400 p e s m args below meth c H locs ls A Qc cells slots mc ms hx hb hml hown hts hrt hlk hin hK hP hD hS hA hKS hAO hl hcnt hmc hms hQ)
          | none =>
            rw [h5] at hrun
            dsimp only at hrun
            cases h6 : pm_write i sw ci h S with
            | some q =>
              obtain ⟨h1', S1⟩ := q
              rw [h6] at hrun
              exact pm_write_snd hx hb hts hG hown hK hP hD hS hKS (hd1 (fun z => by unfold pm_write at h6; split at h6 <;> first | cases z | cases h6)) h6 (fun H1 locs1 hP1 hD1 hS1 => ih _ _ _ _ _ _ _ _ _ hrun hci hl0 h400 p e s m args below meth c H1 locs1 ls A Qc cells slots mc ms hx hb hml hown hts hrt hlk hin hK hP1 hD1 hS1 hA hKS hAO hl hcnt hmc hms hQ)
            | none =>
              rw [h6] at hrun
              dsimp only at hrun
              cases h7 : pn_put i sw ci h S with
              | some q =>
                obtain ⟨h1', S1⟩ := q
                rw [h7] at hrun
                exact pn_put_snd hx hb hts hG hown hin hK hP hD hS (hd1 (fun z => by unfold pn_put at h7; split at h7 <;> first | cases z | cases h7)) h7 (fun H1 locs1 hP1 hD1 hS1 => ih _ _ _ _ _ _ _ _ _ hrun hci hl0 h400 p e s m args below meth c H1 locs1 ls A Qc cells slots mc ms hx hb hml hown hts hrt hlk hin hK hP1 hD1 hS1 hA hKS hAO hl hcnt hmc hms hQ)
              | none =>
                rw [h7] at hrun
                dsimp only at hrun
                cases h8 : pn_mk i ci sw S with
                | some q =>
                  obtain ⟨sh, S1⟩ := q
                  rw [h8] at hrun
                  dsimp only at hrun
                  have hln : sw.length < 400 := pn_mk_400 h8
                  obtain ⟨m1, m2⟩ := pn_mono _ _ _ _ _ _ _ _ _ _ hrun
                  rw [List.length_append, List.length_singleton] at m1
                  rw [pn_tot_app] at m2
                  have hts1 : pn_tot [sh] = pn_sz sh := by show pn_sz sh + 0 = _; omega
                  rw [hts1] at m2
                  refine pn_sizes (fun hup => ?_)
                  have hlo : rho (sw.length - 1) < H.size := (hP (sw.length - 1) _ (pm_W_at (by omega))).lt
                  have hr1 := hrho (sw.length - 1) (by omega)
                  rw [show sw.length - 1 + 1 = sw.length by omega] at hr1
                  have hsz : H.size = rho sw.length := by omega
                  refine pn_mk_snd hx hb hts hG hown hK hP hD hS hA hsz hAO (hd1 (fun z => by unfold pn_mk at h8; split at h8 <;> first | cases z | cases h8)) h8 (by show cells + 1 ≤ mc; omega) (by show slots + pn_sz sh ≤ ms; omega) (fun H1 hP1 hD1 hS1 z1 => ?_)
                  exact ih _ _ _ _ _ _ _ _ _ hrun hci (by rw [List.length_append]; omega) (by rw [List.length_append]; exact hln) p e s m args below meth c H1 locs ls A Qc (cells + 1) (slots + pn_sz sh) mc ms hx hb hml hown hts hrt hlk hin hK hP1 hD1 hS1 hA hKS hAO hl (by rw [List.length_append, List.length_singleton, hrho _ hln]; omega) (by rw [List.length_append, List.length_singleton]; omega) (by rw [pn_tot_app, hts1]; omega) hQ
                | none =>
                  rw [h8] at hrun
                  dsimp only at hrun
                  split at hrun
                  · split at hrun
                    · cases hrun
                      have hdg := hd1 (fun z => by cases z)
                      have e1 : cells = mc := by omega
                      have e2 : slots = ms := by omega
                      subst e1
                      subst e2
                      exact W.vret hx hb hrt (fun t ht hW => hQ t locs hW (by rw [ht]; exact hP) hD (by rw [ht]; exact hS)) hS.2.2 hdg hlk
                    · cases hrun
                  · rename_i idx
                    have hdg := hd1 (fun z => by cases z)
                    split at hrun
                    · rename_i cj hiv
                      obtain ⟨hj8, hlink⟩ := pn_iv_ok hiv
                      cases d with
                      | zero => cases hrun
                      | succ d =>
                        dsimp only at hrun
                        cases hb7 : Nat.beq cj 7 with
                        | true =>
                          rw [hb7] at hrun hlink
                          dsimp only [cond] at hrun hlink
                          split at hrun
                          · obtain ⟨g1, hrun⟩ := pm_bifR hrun
                            obtain ⟨w1, w2⟩ := Bool.and_eq_true_iff.mp pn_ob
                            refine W.objInit hx hb hown (hts _ (hG _ hlink)) (hts _ (hG _ (pm_mem w1))) (hts _ (hG _ (pm_mem w2))) rfl (by rw [hml]; exact hl.1) rfl hdg (Nat.succ_le_succ (Nat.zero_le _)) ?_ ?_
                            · have := Nat.le_of_ble_eq_true g1
                              rw [← pm_cats_c rho] at this
                              exact Nat.le_trans (Nat.add_le_add_right (lv_room (m := m) (pc := pc) (ls := ls) (rest := []) this) 12) (show 8 + 12 ≤ (d + 1) * 40 by omega)
                            · exact ih _ _ _ _ _ _ _ _ _ hrun hci hl0 h400 p e s m args below meth c H locs ls A Qc cells slots mc ms hx hb hml hown hts hrt hlk hin hK hP hD hS hA hKS hAO hl hcnt hmc hms hQ
                          · cases hrun
                        | false =>
                          rw [hb7] at hrun hlink
                          dsimp only [cond] at hrun hlink
                          split at hrun
                          · rename_i a S1 hdr
                            obtain ⟨hg, hrun⟩ := pm_bifR hrun
                            obtain ⟨g1, g2⟩ := Bool.and_eq_true_iff.mp hg
                            obtain ⟨g3, g4⟩ := Bool.and_eq_true_iff.mp g1
                            obtain ⟨g5, g6⟩ := Bool.and_eq_true_iff.mp g2
                            have hj := pm_blt g3
                            split at hrun
                            · rename_i sw2 h2 hcal
                              obtain ⟨m1, m2⟩ := pn_mono _ _ _ _ _ _ _ _ _ _ hrun
                              obtain ⟨m3, m4⟩ := pn_mono _ _ _ _ _ _ _ _ _ _ hcal
                              have h402 := pn_le400 _ _ _ _ _ _ _ _ _ _ hcal h400
                              refine pn_sizes (fun hup => ?_)
                              have hlo : rho (sw.length - 1) < H.size := (hP (sw.length - 1) _ (pm_W_at (by omega))).lt
                              have hr1 := hrho (sw.length - 1) (by omega)
                              rw [show sw.length - 1 + 1 = sw.length by omega] at hr1
                              have hsz : H.size = rho sw.length := by omega
                              have hr2 := pn_rho_add hrho sw.length (sw2.length - sw.length) (by omega)
                              rw [show sw.length + (sw2.length - sw.length) = sw2.length by omega] at hr2
                              have hM := pn_met_of (l := l) (rho := rho) (D := D) (cy := cy) ih hcal hj hl0 h400 (Nat.le_of_ble_eq_true g6)
                              have hA1 := List.all_eq_true.mp pn_mA cj (List.mem_range.mpr hj)
                              simp only [Bool.and_eq_true, decide_eq_true_eq] at hA1
                              obtain ⟨w1, w2, -, -, wcls, wini, wpar, wmx, wn1, wn2, -⟩ := hA1
                              have hmx := Nat.le_of_ble_eq_true wmx
                              have hFc : ∀ q, va_A (pm_W cy rho sw h) (rho sw.length) q → A q := by
                                intro q hq
                                rcases hq with ⟨k, en, hk⟩ | hq
                                · exact hD.2 k _ hk
                                · exact hA q (by rw [← hsz] at hq; exact Nat.le_trans hS.1 hq)
                              have hKS1 : pm_KS rho (va_A (pm_W cy rho sw h) (rho sw.length)) s H := (hKS.kept hS.2.1).narrow hFc
                              have hpre : ∀ U : State, U.heap = H → s.WarmedH U.vm → pn_B rho D cy sw h U := by
                                intro U hU hW
                                refine ⟨⟨by rw [hU, hsz], by rw [hU]; exact hP, va_K.moved hW.alike hK, hD.weaken (fun _ _ _ _ => trivial), ?_⟩, va_AO.moved hW.alike hAO⟩
                                rw [hU]
                                exact pm_KS.moved hW hKS1
                              have cb : CallB (pn_rm (d + 1) mc ms) s args (pm_on ci) idx (pn_nm cj) (pn_by cj) (pn_mx cj) none (pn_ws cj) (pn_rm d (sw2.length - sw.length) (pn_tot sw2 - pn_tot sw)) (sw2.length - sw.length) (pn_tot sw2 - pn_tot sw) (pn_np cj) := callB_of (pn_np cj) hts (pn_goodIn hj) rfl rfl rfl (by rw [wcls]; exact hts _ (hG _ (pm_mem w2))) (hts _ (hG _ hlink)) ⟨wn1, wn2, wpar⟩ ⟨Nat.le_refl _, by show 8 + (pn_mx cj + 11) + d * 40 ≤ (d + 1) * 40; omega⟩
                              have hS0 : S = S.take (pn_np cj) ++ .ref a :: S1 := by
                                have := (List.take_append_drop (pn_np cj) S).symm
                                rw [hdr] at this
                                exact this
                              have hrn := va_runI (b := rho a) (As := pm_cS rho (S.take (pn_np cj)).reverse) (rest := pm_cS rho S1) (g := F0 m pc ls (pm_cS rho S)) ⟨hx, hb, hml, hown, hts⟩ hM ⟨cb, wini, hts _ (hG _ (pm_mem w1))⟩ ⟨pn_blind, fun U hU hW => ⟨rfl, hpre U hU hW⟩⟩ rfl (by
                                show (pm_cS rho (S.take (pn_np cj)).reverse).length = _
                                unfold pm_cS
                                rw [List.length_map, List.length_reverse]
                                exact Nat.eq_of_beq_eq_true g4) hl.1 (by
                                show pm_cS rho S = (pm_cS rho (S.take (pn_np cj)).reverse).reverse ++ .ref (rho a) :: pm_cS rho S1
                                rw [pm_cS_rev, List.reverse_reverse]
                                calc pm_cS rho S = pm_cS rho (S.take (pn_np cj) ++ .ref a :: S1) := by rw [← hS0]
                                  _ = _ := pm_cS_app rho _ _) (lv_room (by rw [pm_cats_c]; exact Nat.le_of_ble_eq_true g5)) hdg (locs := locs) (below := below) (e := e) (meth := meth) (cells := cells) (slots := slots) ⟨by show cells + _ ≤ mc; omega, by show slots + _ ≤ ms; omega⟩
                              refine pn_callk (B := fun t => va_P D pm_cl (pm_W cy rho sw2 h2) t.heap ∧ va_D (va_A (pm_W cy rho sw h) (rho sw.length)) (pm_W cy rho sw2 h2)) (A1 := va_A (pm_W cy rho sw h) (rho sw.length)) (v0 := none) hrn ?_ hS (fun q _ z => hFc q z) hFc ?_
                              · intro st w t hq
                                obtain ⟨q1, q2, q3⟩ := hq
                                exact ⟨Outcome.returned.inj q1, q2, q3⟩
                              · intro t locs1 hBt hS1 _ _ _
                                exact ih _ _ _ _ _ _ _ _ _ hrun hci (by omega) h402 p e s m args below meth c t.heap locs1 ls A Qc _ _ mc ms hx hb hml hown hts hrt hlk hin hK hBt.1 (hBt.2.weaken (fun _ q _ z => hFc q.1 z)) hS1 hA hKS hAO hl (by omega) (by omega) (by omega) hQ
                            · cases hrun
                          · cases hrun
                    · cases hrun
                  · cases hrun
end PN3
