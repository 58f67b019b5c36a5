/-! The law's beginning: two constructors, one array; then its loop -/
theorem pl_dec {pc : Nat} {i : Instr} (h : pm_fd (pm_code 173) pc = some i) (hn : pm_ln i ≠ 0) : decode (pm_by 173) pc = .ok (i, pm_ln i) := by
  obtain ⟨len, hd, hl⟩ := pm_decode h
  rcases hl with h1 | h1
  · exact absurd h1 hn
  · rw [hd, h1]
set_option maxRecDepth 100000 in
theorem pl_c0 : (decide (Cond.classLink "QuietCheckerLaw" 8 (pm_on 5) ∈ lw_tbl) && (decide (Cond.classLink "QuietCheckerLaw" 38 (pm_on 6) ∈ lw_tbl) && (decide (Cond.methodLink "QuietCheckerLaw" 37 (pn_nm 5) ∈ lw_tbl) && decide (Cond.methodLink "QuietCheckerLaw" 40 (pn_nm 6) ∈ lw_tbl)))) = true := by decide +kernel
section PL2
variable {l : Launch} {rho : Nat → Nat} {D : va_G} {cy : Nat → ClassId} {p : Program} {e : Env} {s : State} {m : MethodId} {b : Nat} {below : List Frame} {meth : Method} {c : Code} {H : Heap} {locs : List Loc} {cells slots : Nat} {Q : State → Prop} {ls : Array Slot} {rest : List Value} {Ln : Nat} {xs : Nat → Int32} {sw sw' : List (Nat × Nat)} {h h' : pm_H}
/-- new, in the law -/
theorem pl_new (C0 : lw_At p s m meth c b Ln xs) {pc idx ci : Nat} (hci : ci < 7) (hfd : pm_fd (pm_code 173) pc = some (.new idx)) (hlink : Cond.classLink "QuietCheckerLaw" idx (pm_on ci) ∈ lw_tbl) (hK : va_K D pm_cl (pm_tys cy) s) (hP : va_P D pm_cl (pm_W cy rho sw h) H) (hD : va_D (fun q : Nat => s.heap.size ≤ q) (pm_W cy rho sw h)) (hS : va_S (fun q : Nat => s.heap.size ≤ q) s.heap H locs) (hsz : H.size = rho sw.length) (hc : cells + 1 ≤ 600096) (hs : slots + (pm_clN ci).2.2 ≤ 7301386)
    (k : ∀ (H1 : Heap), va_P D pm_cl (pm_W cy rho (sw ++ [(10 + ci, 0)]) (pn_zero h sw.length)) H1 → va_D (fun q : Nat => s.heap.size ≤ q) (pm_W cy rho (sw ++ [(10 + ci, 0)]) (pn_zero h sw.length)) → va_S (fun q : Nat => s.heap.size ≤ q) s.heap H1 locs → H1.size = H.size + 1 → W p l e room_1 s m #[Value.ref b] below meth c H1 locs (cells + 1) (slots + (pm_clN ci).2.2) Q (F0 m (pc + 3) ls (.ref (rho sw.length) :: rest))) : W p l e room_1 s m #[Value.ref b] below meth c H locs cells slots Q (F0 m pc ls rest) := by
  obtain ⟨hx, hb0, hr, hml, hown0, hts, hX, hbl, hlocks, hgv⟩ := id C0
  have hb : c.code = pm_by 173 := hb0
  have hA1 := List.all_eq_true.mp pn_mA ci (List.mem_range.mpr hci)
  simp only [Bool.and_eq_true, decide_eq_true_eq] at hA1
  obtain ⟨-, w2, w3, -, -, -, -, -, -, -, w4⟩ := hA1
  have hKn := hK.1 ci _ (pm_cl_at hci)
  rw [← hsz] at k
  refine W.newcK (C := pm_on ci) (n := (pm_clN ci).2.2) hx hb hown0 (hts _ hlink) (hts _ (pl_sub _ (pm_mem w3))) (hts _ (pl_sub _ (pm_mem w2))) rfl (pl_dec hfd (fun z => by cases z)) hc hs (by rw [← w4]; exact hKn.2.1) rfl fun H1 kC hkC e1 z1 o1 => ?_
  obtain ⟨r1, r2, r3⟩ := pn_grown (sh := (10 + ci, 0)) hP hD hS (fun _ z => z) hsz z1 o1 (by
    rw [pm_E_O rfl]
    refine ⟨pm_clN ci, pm_cl_at hci, ?_⟩
    rw [hsz] at e1
    refine (u_born (pm_clY ci) hts (fun w hw => pl_sub w (pm_uw hci w hw)) hKn hkC e1 (pm_cl_ty hci)).to (fun j hj => ?_)
    have hft : (pm_ft ci)[j]? = some (pm_clY ci j) := by
      rw [pm_ft_ok ci hci, List.getElem?_map, List.getElem?_range hj]
      rfl
    have hok : pn_oky (pm_clY ci j) = true := List.all_eq_true.mp (List.all_eq_true.mp pn_oky_all ci (List.mem_range.mpr hci)) _ (List.mem_of_getElem? hft)
    show _ = (pm_fs rho (pn_zero h sw.length) sw.length ci).getD j .null
    rw [List.getD_eq_getElem?_getD, pm_fs_at hft, pn_dflt (rho := rho) (h := h) (i := sw.length) (k := j) hok]
    rfl)
  exact k H1 r1 r2 r3 z1
/-- a constructor without arguments, called by the law -/
theorem pl_ctor (C0 : lw_At p s m meth c b Ln xs) (hrho : ∀ i, i < 400 → rho (i + 1) = rho i + 1) {pc idx cj a n : Nat} (hj : cj < 7) (hfd : pm_fd (pm_code 173) pc = some (.invokespecial idx)) (hlink : Cond.methodLink "QuietCheckerLaw" idx (pn_nm cj) ∈ lw_tbl) (hnp : pn_np cj = 0) (hmx : 1 ≤ pn_mx cj) (hrun : pn_run n 6 cj 0 (lv_args 0 [.ref a]) [] sw h = some (sw', h')) (hl0 : 0 < sw.length) (h400 : sw.length ≤ 400) (hK : va_K D pm_cl (pm_tys cy) s) (hP : va_P D pm_cl (pm_W cy rho sw h) H) (hD : va_D (fun q : Nat => s.heap.size ≤ q) (pm_W cy rho sw h)) (hS : va_S (fun q : Nat => s.heap.size ≤ q) s.heap H locs) (hKS : pm_KS rho (fun q : Nat => s.heap.size ≤ q) s s.heap) (hAO : va_AO "QuietChecker$Kind" s) (hsz : H.size = rho sw.length) (hls : ls.size = 7) (hcat : (rest.map fun v => v.category).sum ≤ 8) (hc : cells + (sw'.length - sw.length) ≤ 600096) (hs : slots + (pn_tot sw' - pn_tot sw) ≤ 7301386) (hcnt : rho sw.length = s.heap.size + cells)
    (k : ∀ (H1 : Heap) (locs1 : List Loc), va_P D pm_cl (pm_W cy rho sw' h') H1 → va_D (fun q : Nat => s.heap.size ≤ q) (pm_W cy rho sw' h') → va_S (fun q : Nat => s.heap.size ≤ q) s.heap H1 locs1 → H1.size = rho sw'.length → W p l e room_1 s m #[Value.ref b] below meth c H1 locs1 (cells + (sw'.length - sw.length)) (slots + (pn_tot sw' - pn_tot sw)) Q (F0 m (pc + 3) ls rest)) : W p l e room_1 s m #[Value.ref b] below meth c H locs cells slots Q (F0 m pc ls (.ref (rho a) :: rest)) := by
  obtain ⟨hx, hb0, hr, hml, hown0, hts, hX, hbl, hlocks, hgv⟩ := id C0
  have hb : c.code = pm_by 173 := hb0
  have hA1 := List.all_eq_true.mp pn_mA cj (List.mem_range.mpr hj)
  simp only [Bool.and_eq_true, decide_eq_true_eq] at hA1
  obtain ⟨w1, w2, -, -, wcls, wini, wpar, wmx, wn1, wn2, -⟩ := hA1
  have hmx2 := Nat.le_of_ble_eq_true wmx
  obtain ⟨m1, m2⟩ := pn_mono _ _ _ _ _ _ _ _ _ _ hrun
  have h402 := pn_le400 _ _ _ _ _ _ _ _ _ _ hrun h400
  have hr2 := pn_rho_add hrho sw.length (sw'.length - sw.length) (by omega)
  rw [show sw.length + (sw'.length - sw.length) = sw'.length by omega] at hr2
  have hM := pn_met_of (l := l) (rho := rho) (D := D) (cy := cy) (pn_body hrho n) hrun hj hl0 h400 (show 1 ≤ pn_mx cj from hmx)
  have hFc : ∀ q, va_A (pm_W cy rho sw h) (rho sw.length) q → s.heap.size ≤ q := by
    intro q hq
    rcases hq with ⟨k, en, hk⟩ | hq
    · exact hD.2 k _ hk
    · rw [← hsz] at hq; exact Nat.le_trans hS.1 hq
  have hKS1 : pm_KS rho (va_A (pm_W cy rho sw h) (rho sw.length)) s H := (hKS.kept hS.2.1).narrow hFc
  have hpre : ∀ U : State, U.heap = H → s.WarmedH U.vm → pn_B rho D cy sw h U := by
    intro U hU hW
    refine ⟨⟨by rw [hU, hsz], by rw [hU]; exact hP, va_K.moved hW.alike hK, hD.weaken (fun _ _ _ _ => trivial), ?_⟩, va_AO.moved hW.alike hAO⟩
    rw [hU]
    exact pm_KS.moved hW hKS1
  have hgood : GoodIn lw_tbl (pn_ws cj) := by
    intro w hw
    have hw2 : w ∈ pm_G := by
      rcases List.mem_cons.mp hw with rfl | h1
      · exact pn_G_all hj
      · exact h1
    exact ⟨pl_sub w hw2, pm_good_G w hw2⟩
  have cb : CallB room_1 s #[Value.ref b] "QuietCheckerLaw" idx (pn_nm cj) (pn_by cj) (pn_mx cj) none (pn_ws cj) (pn_rm 6 (sw'.length - sw.length) (pn_tot sw' - pn_tot sw)) (sw'.length - sw.length) (pn_tot sw' - pn_tot sw) 0 := callB_of 0 hts hgood rfl rfl rfl (by rw [wcls]; exact hts _ (pl_sub _ (pm_mem w2))) (hts _ hlink) ⟨wn1, wn2, by rw [hnp] at wpar; exact wpar⟩ ⟨by show 6 + 1 ≤ 2048; omega, by show 8 + (pn_mx cj + 11) + 6 * 40 ≤ 84000; omega⟩
  have hrn := va_runI (b := rho a) (As := []) (rest := rest) (g := F0 m pc ls (.ref (rho a) :: rest)) (p := p) (e := e) (below := below) (meth := meth) (locs := locs) (cells := cells) (slots := slots) (H := H) ⟨hx, hb, hml, hown0, hts⟩ hM ⟨cb, wini, hts _ (pl_sub _ (pm_mem w1))⟩ ⟨pn_blind, fun U hU hW => ⟨rfl, hpre U hU hW⟩⟩ rfl rfl hls rfl (lv_room hcat) (pl_dec hfd (fun z => by cases z)) ⟨hc, hs⟩
  refine pn_callk (B := fun t => va_P D pm_cl (pm_W cy rho sw' h') t.heap ∧ va_D (va_A (pm_W cy rho sw h) (rho sw.length)) (pm_W cy rho sw' h')) (A1 := va_A (pm_W cy rho sw h) (rho sw.length)) (v0 := none) hrn ?_ hS (fun q _ z => hFc q z) hFc ?_
  · intro st w t hq
    obtain ⟨q1, q2, q3⟩ := hq
    exact ⟨Outcome.returned.inj q1, q2, q3⟩
  · intro t locs1 hBt hS1 _ _ _
    refine pn_sizes (fun hup => ?_)
    have hlo : rho (sw'.length - 1) < t.heap.size := (hBt.1 (sw'.length - 1) _ (pm_W_at (by omega))).lt
    have hr1 := hrho (sw'.length - 1) (by omega)
    rw [show sw'.length - 1 + 1 = sw'.length by omega] at hr1
    exact k t.heap locs1 hBt.1 (hBt.2.weaken (fun _ q _ z => hFc q.1 z)) hS1 (by omega)
end PL2
