set_option maxRecDepth 100000 in
theorem pl_tots : pn_tot pm_swC ≤ 100000 ∧ pn_tot (pm_swC ++ [(16, 0)]) ≤ 200000 ∧ pn_tot (pm_swC ++ pm_swM) ≤ 300000 ∧ pn_tot [(15, 0)] ≤ 100 := by decide +kernel
set_option maxRecDepth 100000 in
set_option maxHeartbeats 4000000 in
/-- the law from its entry, out of the run of its loop -/
theorem pl_start {l : Launch} {rho : Nat → Nat} {D : va_G} {cy : Nat → ClassId} {p : Program} {e : Env} {s : State} {m : MethodId} {b : Nat} {below : List Frame} {meth : Method} {c : Code} {Ln : Nat} {xs : Nat → Int32} {n : Nat} (hinj : ∀ a b, pm_kc a = true → pm_kc b = true → rho a = rho b → a = b) (hprim : ∀ (mj : Nat) (as : List Value) (v : Value), pm_prim mj as = some v → ∀ (h : pm_H) (sz : Nat), Met l (pm_nm mj) (pm_ws mj) (pm_rm 4) (va_Pc (pm_cS rho as) (pm_B rho D cy pm_swA h sz)) (pm_Q rho D cy pm_swA h sz (some v) h) 0 0 (va_A (pm_W cy rho pm_swA h) sz)) (htr : l.stackTraces = false)
    (hrun : pl_run xs Ln n 0 20 [(3, .ref 74), (2, .ref 39), (1, .ref 0), (0, .ref 900)] [] pm_hA = some 1) (C0 : lw_At p s m meth c b Ln xs) (hr9 : rho 900 = b) (hr0 : ∀ i, i ≤ 400 → rho i = s.heap.size + i) (hK : va_K D pm_cl (pm_tys cy) s) (hKS : pm_KS rho (fun q : Nat => s.heap.size ≤ q) s s.heap) (hPT : pt_K (fun q : Nat => s.heap.size ≤ q) s s.heap) (hAO : va_AO "QuietChecker$Kind" s) :
    W p l e room_1 s m #[Value.ref b] below meth c s.heap [] 0 0 (lw_Z below #[Value.ref b] s) (entryFrame m ([Value.ref b] : List Value).toArray 7) := by
  obtain ⟨hx, hb0, hr, hml, hown0, hts, hX, hbl, hlocks, hgv⟩ := id C0
  have hb : c.code = pm_by 173 := hb0
  have hrho : ∀ i, i < 400 → rho (i + 1) = rho i + 1 := fun i hi => by rw [hr0 (i + 1) (by omega), hr0 i (by omega)]; omega
  have hw := pl_c0
  simp only [Bool.and_eq_true, decide_eq_true_eq] at hw
  obtain ⟨k1, k2, k3, k4⟩ := hw
  obtain ⟨t1, t2, t3, t4⟩ := pl_tots
  have hP : va_P D pm_cl (pm_W cy rho [] pm_h0) s.heap := fun k q h => by simp [pm_W] at h
  have hD : va_D (fun q : Nat => s.heap.size ≤ q) (pm_W cy rho [] pm_h0) := ⟨fun i j p q h => by simp [pm_W] at h, fun k q h => by simp [pm_W] at h⟩
  have hl := lv_entry ([.ref b]) (n := 7) (Nat.le_of_ble_eq_true rfl)
  rw [lg_entry_eq]
  generalize (lg_sl ([.ref b]) ++ List.replicate (7 - (lg_sl ([.ref b])).length) Slot.unset).toArray = ls at hl ⊢
  have hl : lv_has ls 7 (pm_cL rho [(0, .ref 900)]) := by
    show lv_has ls 7 [(0, .ref (rho 900))]
    rw [hr9]
    exact hl
  refine pl_new (ci := 5) (sw := []) (h := pm_h0) (rho := rho) (cy := cy) (D := D) C0 (by decide) (by rfl) k1 hK hP hD va_S.rf (hr0 0 (by decide)).symm (by omega) (by show 0 + 11 ≤ 7301386; omega) (fun H1 hP1 hD1 hS1 z1 => ?_)
  have hlc : rho ([] : List (Nat × Nat)).length = rho 0 := rfl
  refine lv_dup hx hb (pl_dec (pc := 3) (i := .dup) (by rfl) (by decide)) rfl ?_
  refine pl_ctor (n := 400) (a := 0) (cj := 5) (sw := [(15, 0)]) (sw' := pm_swC) (h := pn_zero pm_h0 0) (h' := pm_hC) C0 hrho (by decide) (by rfl) k3 (by rfl) (by decide) pn_runC (by decide) (by decide) hK hP1 hD1 hS1 hKS hAO (by rw [z1]; exact (hr0 1 (by decide)).symm) hl.1 (Nat.le_of_ble_eq_true rfl) (by show 0 + 1 + (39 - 1) ≤ 600096; omega) (by show 0 + 11 + (pn_tot pm_swC - pn_tot [(15, 0)]) ≤ 7301386; omega) (hr0 1 (by decide)) (fun H2 locs2 hP2 hD2 hS2 z2 => ?_)
  refine lv_astore_n (lv' := pm_cL rho [(1, .ref 0), (0, .ref 900)]) hx hb (pl_dec (pc := 7) (i := .astore_n 1) (by rfl) (by decide)) rfl hl (by decide) rfl (fun ls1 hl1 => ?_)
  refine pl_new (ci := 6) (sw := pm_swC) (h := pm_hC) (rho := rho) (cy := cy) (D := D) C0 (by decide) (by rfl) k2 hK hP2 hD2 hS2 z2 (by show 0 + 1 + (39 - 1) + 1 ≤ 600096; omega) (by show 0 + 11 + (pn_tot pm_swC - pn_tot [(15, 0)]) + 64 ≤ 7301386; omega) (fun H3 hP3 hD3 hS3 z3 => ?_)
  refine lv_dup hx hb (pl_dec (pc := 11) (i := .dup) (by rfl) (by decide)) rfl ?_
  have h39 : rho pm_swC.length = s.heap.size + 39 := hr0 39 (by decide)
  refine pl_ctor (n := 400) (a := 39) (cj := 6) (sw := pm_swC ++ [(16, 0)]) (sw' := pm_swC ++ pm_swM) (h := pn_zero pm_hC 39) (h' := pm_hM) C0 hrho (by decide) (by rfl) k4 (by rfl) (by decide) pn_runM (by decide) (by decide) hK hP3 hD3 hS3 hKS hAO (by rw [z3, z2, h39]; exact (hr0 40 (by decide)).symm) hl1.1 (Nat.le_of_ble_eq_true rfl) (by show 0 + 1 + (39 - 1) + 1 + (74 - 40) ≤ 600096; omega) (by show 0 + 11 + (pn_tot pm_swC - pn_tot [(15, 0)]) + 64 + (pn_tot (pm_swC ++ pm_swM) - pn_tot (pm_swC ++ [(16, 0)])) ≤ 7301386; omega) (hr0 40 (by decide)) (fun H4 locs4 hP4 hD4 hS4 z4 => ?_)
  refine lv_astore_n (lv' := pm_cL rho [(2, .ref 39), (1, .ref 0), (0, .ref 900)]) hx hb (pl_dec (pc := 15) (i := .astore_n 2) (by rfl) (by decide)) rfl hl1 (by decide) rfl (fun ls2 hl2 => ?_)
  refine lv_iconst (v := 1) hx hb (pl_dec (pc := 16) (i := .iconst 1) (by rfl) (by decide)) (by decide) ?_
  refine pn_mk_snd (ow := 12) (sw := pm_swC ++ pm_swM) (h := pm_hM) (S := [.int 1]) (S' := []) (sh := (4, 1)) (Ts := lw_tbl) hx hb hts pl_sub hown0 hK hP4 hD4 hS4 (fun _ z => z) z4 hAO (pl_dec (pc := 17) (i := .newarray .long) (by rfl) (by decide)) (by rfl) (by show 0 + 1 + (39 - 1) + 1 + (74 - 40) + 1 ≤ 600096; omega) (by show 0 + 11 + (pn_tot pm_swC - pn_tot [(15, 0)]) + 64 + (pn_tot (pm_swC ++ pm_swM) - pn_tot (pm_swC ++ [(16, 0)])) + 1 ≤ 7301386; omega) (fun H5 hP5 hD5 hS5 z5 => ?_)
  refine lv_astore_n (lv' := pm_cL rho [(3, .ref 74), (2, .ref 39), (1, .ref 0), (0, .ref 900)]) hx hb (pl_dec (pc := 19) (i := .astore_n 3) (by rfl) (by decide)) rfl hl2 (by decide) rfl (fun ls3 hl3 => ?_)
  exact pl_body hinj hprim htr xs Ln n 0 20 _ [] pm_hA hrun (by omega) p e s m b below meth c H5 locs4 ls3 _ _ C0 hr9 (by show 0 + 1 + (39 - 1) + 1 + (74 - 40) + 1 + (500 - 0) ≤ 600096; omega) (by show 0 + 11 + (pn_tot pm_swC - pn_tot [(15, 0)]) + 64 + (pn_tot (pm_swC ++ pm_swM) - pn_tot (pm_swC ++ [(16, 0)])) + 1 + 6 * (500 - 0) ≤ 7301386; omega) hK hP5 hD5 hS5 hKS hPT hl3
