/-! The law's loop, run by the pure machine: script reads, calls of methods, calls of wrappers -/
def pl_scr (xs : Nat → Int32) (Ln : Nat) (i : Instr) (S : List Value) : Option (List Value) := match i with
  | .arraylength => match S with
    | .ref a :: S' => bif Nat.beq a 900 then some (.int (Int32.ofNat Ln) :: S') else none
    | _ => none
  | .iaload => match S with
    | .int j :: .ref a :: S' => bif Nat.beq a 900 && pm_inb j Ln then some (.int (xs j.toNatClampNeg) :: S') else none
    | _ => none
  | _ => none
def pl_wf : List (Nat × Nat) → Nat → Option Nat
  | [], _ => none
  | q :: l, k => bif Nat.beq q.1 k then some q.2 else pl_wf l k
def pl_wr (i : Instr) (S : List Value) : Option (Nat × List Value × List Value) := match i with
  | .invokestatic idx => match pl_wf pl_wvl idx with
    | some mi => bif Nat.beq (S.take (pm_np mi)).length (pm_np mi) && (Nat.ble (pm_cats (S.drop (pm_np mi))) 8 && Nat.ble (lg_sl (S.take (pm_np mi)).reverse).length (pm_mx mi)) then some (mi, (S.take (pm_np mi)).reverse, S.drop (pm_np mi)) else none
    | none => none
  | _ => none
/-- where the law's own steps stop: at the script, at a wrapper, at its end -/
def pl_stop (pc : Nat) : Bool := match pm_fd (pm_code 173) pc with
  | some .arraylength => true
  | some .iaload => true
  | some (.invokestatic _) => true
  | some .ireturn => true
  | _ => false
def pl_run (xs : Nat → Int32) (Ln : Nat) : Nat → Nat → Nat → pm_L → List Value → pm_H → Option Int32
  | 0, _, _, _, _, _ => none
  | n + 1, x, pc, L, S, h => match pm_fd (pm_code 173) pc with
    | none => none
    | some i => match pl_scr xs Ln i S with
      | some S' => pl_run xs Ln n x (pc + pm_ln i) L S' h
      | none => match pl_wr i S with
        | some (mi, as, S') => (match pw_run pm_swA n 1000 mi as h with
          | some (k, h') => bif Nat.blt x 400 then pl_run xs Ln n (x + 1) (pc + 3) L (.int k :: S') h' else none
          | none => none)
        | none => match i with
          | .ireturn => (match S with
            | [.int k] => some k
            | _ => none)
          | _ => (match pp_run pm_swA pl_stop n 1000 173 pc L S h with
            | some (pc', L', S', h') => pl_run xs Ln n x pc' L' S' h'
            | none => none)
theorem pl_wf_mem : ∀ {l : List (Nat × Nat)} {k a : Nat}, pl_wf l k = some a → (k, a) ∈ l := by
  intro l
  induction l with
  | nil => intro k a h; cases h
  | cons q l ih =>
    intro k a h
    unfold pl_wf at h
    cases hb : Nat.beq q.1 k with
    | true =>
      rw [hb] at h
      have h1 : q.1 = k := Nat.eq_of_beq_eq_true hb
      have h2 : q.2 = a := Option.some.inj h
      obtain ⟨q1, q2⟩ := q
      dsimp only at h1 h2
      subst h1; subst h2
      exact List.mem_cons_self
    | false =>
      rw [hb] at h
      exact List.mem_cons_of_mem _ (ih h)
set_option maxRecDepth 100000 in
theorem pl_wchk : pl_wvl.all (fun q => (Nat.ble 174 q.2 && Nat.blt q.2 180) && ((decide (Cond.methodLink "QuietCheckerLaw" q.1 (pm_nm q.2) ∈ lw_tbl) && decide (Cond.static (pm_nm q.2) ∈ lw_tbl)) && ((decide (Cond.initialized (pm_nm q.2).cls ∈ lw_tbl) && decide (Cond.codeWith (pm_nm q.2) (pm_by q.2) (pm_mx q.2) (some .int) (pw_hh q.2) ∈ lw_tbl)) && (decide ((parseMethodDescriptor (pm_nm q.2).desc).map (fun d => d.parameters.length) = some (pm_np q.2)) && (Nat.ble (pm_mx q.2) 20 && (decide ((pm_nm q.2).cls ≠ "java/lang/invoke/MethodHandle") && decide ((pm_nm q.2).cls ≠ "java/lang/invoke/VarHandle"))))))) = true := by decide +kernel
theorem pl_sub : ∀ w ∈ pm_G, w ∈ lw_tbl := fun w hw => (List.mem_filter.mp hw).1
section PL1
variable {l : Launch} {rho : Nat → Nat} {D : va_G} {cy : Nat → ClassId}
def pl_Bd (l : Launch) (rho : Nat → Nat) (D : va_G) (cy : Nat → ClassId) (xs : Nat → Int32) (Ln : Nat) (n : Nat) : Prop :=
  ∀ (x pc : Nat) (L : pm_L) (S : List Value) (h : pm_H), pl_run xs Ln n x pc L S h = some 1 → x ≤ 400 →
  ∀ (p : Program) (e : Env) (s : State) (m : MethodId) (b : Nat) (below : List Frame) (meth : Method) (c : Code) (H : Heap) (locs : List Loc) (ls : Array Slot) (cells slots : Nat),
  lw_At p s m meth c b Ln xs → rho 900 = b → cells + (500 - x) ≤ 600096 → slots + 6 * (500 - x) ≤ 7301386 →
  va_K D pm_cl (pm_tys cy) s → va_P D pm_cl (pm_W cy rho pm_swA h) H → va_D (fun q : Nat => s.heap.size ≤ q) (pm_W cy rho pm_swA h) → va_S (fun q : Nat => s.heap.size ≤ q) s.heap H locs → pm_KS rho (fun q : Nat => s.heap.size ≤ q) s s.heap → pt_K (fun q : Nat => s.heap.size ≤ q) s s.heap → lv_has ls (pm_mx 173) (pm_cL rho L) →
  W p l e room_1 s m #[Value.ref b] below meth c H locs cells slots (lw_Z below #[Value.ref b] s) (F0 m pc ls (pm_cS rho S))
set_option maxHeartbeats 4000000 in
theorem pl_body (hinj : ∀ a b, pm_kc a = true → pm_kc b = true → rho a = rho b → a = b) (hprim : ∀ (mj : Nat) (as : List Value) (v : Value), pm_prim mj as = some v → ∀ (h : pm_H) (sz : Nat), Met l (pm_nm mj) (pm_ws mj) (pm_rm 4) (va_Pc (pm_cS rho as) (pm_B rho D cy pm_swA h sz)) (pm_Q rho D cy pm_swA h sz (some v) h) 0 0 (va_A (pm_W cy rho pm_swA h) sz)) (htr : l.stackTraces = false) (xs : Nat → Int32) (Ln : Nat) : ∀ n, pl_Bd l rho D cy xs Ln n := by
  intro n
  induction n with
  | zero => intro x pc L S h hrun; cases hrun
  | succ n ih =>
    intro x pc L S h hrun hx4 p e s m b below meth c H locs ls cells slots C0 hrb hcl hsl hK hP hD hS hKS hPT hl
    obtain ⟨hx, hb0, hr, hml, hown0, hts, hX, hbl, hlocks, hgv⟩ := id C0
    have hb : c.code = pm_by 173 := hb0
    have hown : s.vm.findClass (pm_on 12) = some m.cls := hown0
    have hA : ∀ q : Nat, s.heap.size ≤ q → (fun q : Nat => s.heap.size ≤ q) q := fun _ h => h
    have hbA : ¬ (fun q : Nat => s.heap.size ≤ q) b := Nat.not_le.mpr hbl
    have hG := pl_sub
    unfold pl_run at hrun
    cases hfd : pm_fd (pm_code 173) pc with
    | none => rw [hfd] at hrun; cases hrun
    | some i =>
      rw [hfd] at hrun
      dsimp only at hrun
      obtain ⟨len, hdec, hlen⟩ := pm_decode hfd
      have hd1 : pm_ln i ≠ 0 → decode (pm_by 173) pc = .ok (i, pm_ln i) := fun z => by
        rcases hlen with h1 | h1
        · exact absurd h1 z
        · rw [hdec, h1]
      cases h0 : pl_scr xs Ln i S with
      | some S1 =>
        rw [h0] at hrun
        have hdg := hd1 (fun z => by unfold pl_scr at h0; split at h0 <;> first | cases z | cases h0)
        have kk := ih x _ L S1 h hrun hx4 p e s m b below meth c H locs ls cells slots C0 hrb hcl hsl hK hP hD hS hKS hPT hl
        unfold pl_scr at h0
        split at h0
        · split at h0
          · rename_i a S2
            obtain ⟨g1, rfl⟩ := pm_bif h0
            have g1 := Nat.eq_of_beq_eq_true g1
            subst g1
            show W p l e room_1 s m #[Value.ref b] below meth c H locs cells slots (lw_Z below #[Value.ref b] s) (F0 m pc ls (.ref (rho 900) :: pm_cS rho S2))
            rw [hrb]
            exact va_slen hx hb hX hbl hbA hS hdg kk
          · cases h0
        · split at h0
          · rename_i j a S2
            obtain ⟨g0, rfl⟩ := pm_bif h0
            obtain ⟨g1, g2⟩ := Bool.and_eq_true_iff.mp g0
            have g1 := Nat.eq_of_beq_eq_true g1
            subst g1
            show W p l e room_1 s m #[Value.ref b] below meth c H locs cells slots (lw_Z below #[Value.ref b] s) (F0 m pc ls (.int j :: .ref (rho 900) :: pm_cS rho S2))
            rw [hrb]
            exact va_sld hx hb hX hbl hbA hS (pm_inb_vp g2) hdg kk
          · cases h0
        · cases h0
      | none =>
        rw [h0] at hrun
        dsimp only at hrun
        cases hw : pl_wr i S with
        | some q =>
          obtain ⟨mi, as, S1⟩ := q
          rw [hw] at hrun
          dsimp only at hrun
          split at hrun
          · rename_i k h' hpw
            obtain ⟨hx5, hrun⟩ := pm_bifR hrun
            have hx5 := pm_blt hx5
            unfold pl_wr at hw
            split at hw
            · rename_i idx
              have hdg := hd1 (fun z => by cases z)
              split at hw
              · rename_i mi0 hwf
                obtain ⟨hg, he⟩ := pm_bif hw
                cases he
                obtain ⟨g1, g2⟩ := Bool.and_eq_true_iff.mp hg
                obtain ⟨g3, g4⟩ := Bool.and_eq_true_iff.mp g2
                have hck := List.all_eq_true.mp pl_wchk _ (pl_wf_mem hwf)
                simp only [Bool.and_eq_true, decide_eq_true_eq] at hck
                obtain ⟨⟨m1, m2⟩, ⟨w1, w2⟩, ⟨w3, w4⟩, w5, w6, w7, w8⟩ := hck
                have m1 := Nat.le_of_ble_eq_true m1
                have m2 := pm_blt m2
                have w6 := Nat.le_of_ble_eq_true w6
                have hM := pw_met (l := l) (rho := rho) (D := D) (cy := cy) (sw := pm_swA) hinj hprim htr hpw m1 m2 (by omega) (Nat.le_of_ble_eq_true g4) H.size
                obtain ⟨hFc, hpre⟩ := pt_pre hK hP hD hS hA hKS hPT
                have hgood : GoodIn lw_tbl (va_wsS "QuietCheckerLaw" idx (pm_nm mi) (pw_ws mi)) := by
                  intro w hw
                  unfold va_wsS pw_ws at hw
                  simp only [List.cons_append, List.nil_append, List.mem_cons] at hw
                  rcases hw with rfl | rfl | rfl | rfl | hw
                  · exact ⟨w1, Or.inl rfl⟩
                  · exact ⟨w2, Or.inl rfl⟩
                  · exact ⟨w3, Or.inl rfl⟩
                  · exact ⟨w4, Or.inl rfl⟩
                  · exact ⟨hG w hw, pm_good_G w hw⟩
                have cw := vx_cwSW (R := room_1) (own := "QuietCheckerLaw") (index := idx) (y := pm_nm mi) (bytes := pm_by mi) (maxL := pm_mx mi) (ret := some .int) (hh := pw_hh mi) (rm := pn_rm (1000 + 1) 1 6) (mc := 1) (ms := 6) (pm_np mi) hts hgood rfl rfl rfl ⟨w7, w8, w5⟩ ⟨by show 1001 + 1 ≤ 2048; omega, by show 8 + (pm_mx mi + 11) + 1001 * 40 ≤ 84000; omega⟩
                have hrn := vx_runSW (As := pm_cS rho (S.take (pm_np mi)).reverse) (rest := pm_cS rho (S.drop (pm_np mi))) (g := F0 m pc ls (pm_cS rho S)) (p := p) (e := e) (below := below) (meth := meth) (locs := locs) (cells := cells) (slots := slots) (H := H) ⟨hx, hb, hml, hown0, hts⟩ hM cw ⟨pt_blind, fun U hU hW => ⟨rfl, hpre U hU hW⟩⟩ rfl (by
                  unfold pm_cS
                  rw [List.length_map, List.length_reverse]
                  exact Nat.eq_of_beq_eq_true g1) hl.1 (by
                  show pm_cS rho S = (pm_cS rho (S.take (pm_np mi)).reverse).reverse ++ pm_cS rho (S.drop (pm_np mi))
                  rw [pm_cS_rev, List.reverse_reverse]
                  calc pm_cS rho S = pm_cS rho (S.take (pm_np mi) ++ S.drop (pm_np mi)) := by rw [List.take_append_drop]
                    _ = _ := pm_cS_app rho _ _) (lv_room (by rw [pm_cats_c]; exact Nat.le_of_ble_eq_true g3)) hdg ⟨by show cells + 1 ≤ 600096; omega, by show slots + 6 ≤ 7301386; omega⟩
                refine pn_callk (B := fun t => va_P D pm_cl (pm_W cy rho pm_swA h') t.heap ∧ va_D (va_A (pm_W cy rho pm_swA h) H.size) (pm_W cy rho pm_swA h')) (A1 := va_A (pm_W cy rho pm_swA h) H.size) (v0 := some (.int k)) hrn ?_ hS (fun q _ z => hFc q z) hFc ?_
                · intro st w t hq
                  obtain ⟨q1, q2, q3⟩ := hq
                  exact ⟨Outcome.returned.inj q1, q2, q3⟩
                · intro t locs1 hBt hS1 _ _ _
                  exact ih (x + 1) (pc + 3) L (.int k :: S.drop (pm_np mi)) h' hrun (by omega) p e s m b below meth c t.heap locs1 ls (cells + 1) (slots + 6) C0 hrb (by omega) (by omega) hK hBt.1 (hBt.2.weaken (fun _ q _ z => hFc q.1 z)) hS1 hKS hPT hl
              · cases hw
            · cases hw
          · cases hrun
        | none =>
          rw [hw] at hrun
          dsimp only at hrun
          split at hrun
          · split at hrun
            · cases hrun
              have hdg := hd1 (fun z => by cases z)
              refine va_forget (fun q hq => hS.2.2 q hq) ?_
              refine W.widen (k := 600096) (n := 7301386) (by omega) (by omega) ?_
              exact lw_ret hx hb0 hr hlocks hdg
            · cases hrun
          · split at hrun
            · rename_i pc1 L1 S1 h1 hpp
              refine pp_body hinj hprim pl_stop n 1000 173 pc L S h pc1 L1 S1 h1 hpp p e room_1 s m _ below meth c H locs ls (fun q : Nat => s.heap.size ≤ q) _ cells slots lw_tbl hx hb hml hown hts hG ⟨by show 1000 ≤ 2048; omega, by show 1000 * 40 ≤ 84000; omega, by show cells ≤ 600096; omega, by show slots ≤ 7301386; omega⟩ hK hP hD hS hA hKS hl ?_
              intro H1 locs1 ls1 hP1 hD1 hS1 hl1
              exact ih x pc1 L1 S1 h1 hrun hx4 p e s m b below meth c H1 locs1 ls1 cells slots C0 hrb hcl hsl hK hP1 hD1 hS1 hKS hPT hl1
            · cases hrun
end PL1
