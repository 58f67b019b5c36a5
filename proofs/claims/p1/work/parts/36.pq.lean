/-! What holds at the law's start: the kinds, the tables, the addresses -/
abbrev pq_FL : List Cond := flatC (Jvm.Cond.and given_1 narrow_1)
def pq_nm (i : Nat) : String := (pm_kst.getD i ("", "", "", 0)).2.1
def pq_tm (i : Nat) : Term := .static "QuietChecker$Kind" (pq_nm i) "LQuietChecker$Kind;"
def pq_lv (i : Nat) : Int32 := match pm_kv pm_kof (1000 + i) 1 with
  | some (.int x) => x
  | _ => 0
def pq_op (i : Nat) : Int32 := match pm_kv pm_kof (1000 + i) 2 with
  | some (.int x) => x
  | _ => 0
set_option maxRecDepth 100000 in
theorem pq_m1 : ∀ i, i < 39 → Cond.exactly (pq_tm i) "QuietChecker$Kind" ∈ pq_FL := by decide +kernel
set_option maxRecDepth 100000 in
theorem pq_m2 : ∀ i, i < 39 → Cond.eq (.field (pq_tm i) "java/lang/Enum" "ordinal" "I") (.int (Int32.ofNat i)) ∈ pq_FL := by decide +kernel
set_option maxRecDepth 100000 in
theorem pq_m3 : ∀ i, i < 39 → Cond.eq (.field (pq_tm i) "QuietChecker$Kind" "level" "I") (.int (pq_lv i)) ∈ pq_FL := by decide +kernel
set_option maxRecDepth 100000 in
theorem pq_m4 : ∀ i, i < 39 → Cond.eq (.field (pq_tm i) "QuietChecker$Kind" "op" "I") (.int (pq_op i)) ∈ pq_FL := by decide +kernel
set_option maxRecDepth 100000 in
theorem pq_m5 : ∀ i, i < 39 → Cond.laysStatic "QuietChecker$Kind" (pq_nm i) "LQuietChecker$Kind;" ∈ lw_tbl := by decide +kernel
set_option maxRecDepth 100000 in
theorem pq_m6 : Cond.exactly (.static "QuietChecker$Kind" "ALL" "[LQuietChecker$Kind;") "[LQuietChecker$Kind;" ∈ pq_FL ∧ Cond.laysStatic "QuietChecker$Kind" "ALL" "[LQuietChecker$Kind;" ∈ lw_tbl ∧ Cond.initialized "QuietChecker$Kind" ∈ lw_tbl := by decide +kernel
set_option maxRecDepth 100000 in
theorem pq_m7 : (Cond.isRef (.static Bundle.tN "UNASSIGNED_STACK" Bundle.steD) ∈ pq_FL ∧ Cond.isRef (.static Bundle.tN "SUPPRESSED_SENTINEL" Bundle.listD) ∈ pq_FL) ∧ (Cond.laysStatic Bundle.tN "UNASSIGNED_STACK" Bundle.steD ∈ lw_tbl ∧ Cond.laysStatic Bundle.tN "SUPPRESSED_SENTINEL" Bundle.listD ∈ lw_tbl) ∧ Cond.initialized Bundle.tN ∈ lw_tbl := by decide +kernel
set_option maxRecDepth 100000 in
theorem pq_m8 : (∀ w ∈ pt_ex, w ∈ lw_tbl ∧ w.onTables = true) ∧ Cond.not (.castable (pt_xn 1) (pt_xn 0)) ∈ pq_FL ∧ Cond.not (.castable (pt_xn 2) (pt_xn 0)) ∈ pq_FL := by decide +kernel
set_option maxRecDepth 100000 in
theorem pq_kst : pm_kst = (List.range 39).map (fun i => ("QuietChecker$Kind", pq_nm i, "LQuietChecker$Kind;", 1000 + i)) ++ [("QuietChecker$Kind", "ALL", "[LQuietChecker$Kind;", 2000)] := by decide +kernel
set_option maxRecDepth 100000 in
theorem pq_kob : pm_kob = (List.range 39).map (fun i => (1000 + i, "QuietChecker$Kind")) := by decide +kernel
set_option maxRecDepth 100000 in
theorem pq_kof : pm_kof = (List.range 39).flatMap (fun i => [(1000 + i, 1, .int (pq_lv i)), (1000 + i, 2, .int (pq_op i))]) := by decide +kernel
/-- the addresses: cells from the heap's end on, the script, the constants -/
def pq_rho (sz b aALL : Nat) (ad : Nat → Nat) (i : Nat) : Nat := if i ≤ 400 then sz + i else if i = 900 then b else if 1000 ≤ i ∧ i < 1039 then ad (i - 1000) else if i = 2000 then aALL else sz + i
theorem pq_r1 (sz b aALL : Nat) (ad : Nat → Nat) {i : Nat} (h : i < 39) : pq_rho sz b aALL ad (1000 + i) = ad i := by
  unfold pq_rho
  rw [if_neg (by omega), if_neg (by omega), if_pos (by omega), Nat.add_sub_cancel_left]
theorem pq_arr {s : State} {args : Array Value} {ty : FieldType} (h : (Cond.arrayClass ty).before args s = true) : ∃ cA : ClassId, ArrOfT s cA ty ∧ s.vm.findClass ("[" ++ ty.toString) = some cA := by
  obtain ⟨cA, kA, comp, h1, h2, h3⟩ := Cond.arrayClass_spec h
  exact ⟨cA, fun n z => ⟨fun k h => (by cases h), kA, h2, comp, h3⟩, h1⟩
set_option maxRecDepth 100000 in
theorem pq_start {p : Program} {s : State} {m : MethodId} {meth : Method} {c : Code} {b Ln : Nat} {xs : Nat → Int32} (C0 : lw_At p s m meth c b Ln xs) : ∃ (rho : Nat → Nat) (D : va_G) (cy : Nat → ClassId), (∀ a b, pm_kc a = true → pm_kc b = true → rho a = rho b → a = b) ∧ rho 900 = b ∧ (∀ i, i ≤ 400 → rho i = s.heap.size + i) ∧ va_K D pm_cl (pm_tys cy) s ∧ pm_KS rho (fun q : Nat => s.heap.size ≤ q) s s.heap ∧ pt_K (fun q : Nat => s.heap.size ≤ q) s s.heap ∧ va_AO "QuietChecker$Kind" s := by
  obtain ⟨hx, hb0, hr, hml, hown0, hts, hX, hbl, hlocks, hgv⟩ := C0
  have hs := flat_of_before _ hgv
  have hA : ∀ a : Nat, a < s.heap.size → ¬ (fun q : Nat => s.heap.size ≤ q) a := fun a h => Nat.not_le.mpr h
  obtain ⟨n1, n2, n3⟩ := pq_m6
  -- the kinds
  have h0 : ∀ i : Nat, ∃ t : Nat, i < 39 → (pq_tm i).eval #[Value.ref b] s none [] s = some (.ref t) ∧ va_O "QuietChecker$Kind" t (fun q : Nat => s.heap.size ≤ q) s s.heap ∧ t < s.heap.size := by
    intro i
    by_cases hi : i < 39
    · obtain ⟨a, c, cell, k, q1, q2, q3, q4, q5, q6, -⟩ := Cond.exactly_spec (hs _ (pq_m1 i hi))
      have hlt := (Array.getElem?_eq_some_iff.mp q3).1
      exact ⟨a, fun _ => ⟨q1, ⟨cell, q3, q5, by rw [q6]; exact q2, hA a hlt⟩, hlt⟩⟩
    · exact ⟨0, fun h => absurd h hi⟩
  obtain ⟨ad, had⟩ := Classical.axiomOfChoice h0
  obtain ⟨aALL, _, _, _, hall, -, -, -, -, -, -⟩ := Cond.exactly_spec (hs _ n1)
  have hinj0 : ∀ i j, i < 39 → j < 39 → ad i = ad j → i = j := by
    intro i j hi hj hij
    have e1 := va_eqt (hs _ (pq_m2 i hi))
    have e2 := va_eqt (hs _ (pq_m2 j hj))
    rw [va_fe (had i hi).1] at e1
    rw [va_fe (had j hj).1, ← hij, e1] at e2
    have e3 : Int32.ofNat i = Int32.ofNat j := by
      have := Option.some.inj e2
      exact Value.int.inj this
    exact (nI_eq (by omega) (by omega)).mp e3
  -- the classes
  have h1 : ∀ ci : Nat, ∃ q : ClassId × (Nat → Nat), ci < 7 → u_Kn s (pm_clN ci).1 (pm_clN ci).2.1 (pm_clN ci).2.2 q.1 q.2 := by
    intro ci
    by_cases hci : ci < 7
    · have hA1 := List.all_eq_true.mp pn_mA ci (List.mem_range.mpr hci)
      simp only [Bool.and_eq_true, decide_eq_true_eq] at hA1
      obtain ⟨-, -, w3, -, -, -, -, -, -, -, w4⟩ := hA1
      obtain ⟨cC, iS, hKn⟩ := u_known (C := (pm_clN ci).1) (T := (pm_clN ci).2.1) (N := (pm_clN ci).2.2) (n := (pm_clN ci).2.2) hts (fun w hw => pl_sub w (pm_uw hci w hw)) (by rw [w4]; exact hts _ (pl_sub _ (pm_mem w3)))
      exact ⟨(cC, iS), fun _ => hKn⟩
    · exact ⟨(0, fun _ => 0), fun h => absurd h hci⟩
  obtain ⟨DD, hDD⟩ := Classical.axiomOfChoice h1
  -- the arrays
  have hw := pn_ac_all
  simp only [Bool.and_eq_true] at hw
  obtain ⟨a0, a1, a2, a3, a4⟩ := hw
  obtain ⟨c0, p0, f0⟩ := pq_arr (hts _ (pl_sub _ (pm_mem a0)))
  obtain ⟨c1, p1, f1⟩ := pq_arr (hts _ (pl_sub _ (pm_mem a1)))
  obtain ⟨c2, p2, f2⟩ := pq_arr (hts _ (pl_sub _ (pm_mem a2)))
  obtain ⟨c3, p3, f3⟩ := pq_arr (hts _ (pl_sub _ (pm_mem a3)))
  obtain ⟨c4, p4, f4⟩ := pq_arr (hts _ (pl_sub _ (pm_mem a4)))
  have hov : (Cond.arrayOver (.object "QuietChecker$Kind")).before #[Value.ref b] s = true := hts _ (List.mem_of_getElem? (of_decide_eq_true pn_ao))
  obtain ⟨comp, c5, k5, g1, -, g3, g4, g5⟩ := Cond.arrayOver_spec hov
  refine ⟨pq_rho s.heap.size b aALL ad, (fun ci => (DD ci).1, fun ci => (DD ci).2), (fun k => match k with | 0 => c0 | 1 => c1 | 2 => c2 | 3 => c3 | 4 => c4 | _ => c5), ?_, ?_, ?_, ?_, ?_, ?_, va_AO.of hov⟩
  · intro x y hkx hky hxy
    obtain ⟨x1, x2⟩ := Bool.and_eq_true_iff.mp hkx
    obtain ⟨y1, y2⟩ := Bool.and_eq_true_iff.mp hky
    have x1 := Nat.le_of_ble_eq_true x1
    have x2 := pm_blt x2
    have y1 := Nat.le_of_ble_eq_true y1
    have y2 := pm_blt y2
    unfold pq_rho at hxy
    rw [if_neg (by omega), if_neg (by omega), if_neg (show ¬ y ≤ 400 by omega), if_neg (show ¬ y = 900 by omega)] at hxy
    by_cases hx9 : x < 1039
    · rw [if_pos (by omega)] at hxy
      have lx := (had (x - 1000) (by omega)).2.2
      by_cases hy9 : y < 1039
      · rw [if_pos (by omega)] at hxy
        have := hinj0 _ _ (by omega) (by omega) hxy
        omega
      · rw [if_neg (by omega), if_neg (by omega)] at hxy
        omega
    · rw [if_neg (by omega), if_neg (by omega)] at hxy
      by_cases hy9 : y < 1039
      · have ly := (had (y - 1000) (by omega)).2.2
        rw [if_pos (by omega)] at hxy
        omega
      · rw [if_neg (by omega), if_neg (by omega)] at hxy
        omega
  · unfold pq_rho
    rw [if_neg (by omega), if_pos rfl]
  · intro i hi
    unfold pq_rho
    rw [if_pos hi]
  · refine ⟨fun ci q hq => ?_, fun k q hq => ?_⟩
    · have hlt : ci < 7 := (List.getElem?_eq_some_iff.mp hq).1
      rw [pm_cl_at hlt] at hq
      cases hq
      exact hDD ci hlt
    · unfold pm_tys at hq
      match k, hq with
      | 0, hq => cases hq; exact ⟨p0, f0⟩
      | 1, hq => cases hq; exact ⟨p1, f1⟩
      | 2, hq => cases hq; exact ⟨p2, f2⟩
      | 3, hq => cases hq; exact ⟨p3, f3⟩
      | 4, hq => cases hq; exact ⟨p4, f4⟩
      | 5, hq => cases hq; exact ⟨fun n z => ⟨fun k h => (by cases h), k5, g3, comp, g4⟩, k5, comp, g3, g4, g1, g5⟩
      | k + 6, hq => simp at hq
  · refine ⟨fun q hq => ?_, fun q hq => ?_, fun q hq => ?_⟩
    · rw [pq_kst] at hq
      rcases List.mem_append.mp hq with hq | hq
      · obtain ⟨i, hi, rfl⟩ := List.mem_map.mp hq
        have hi := List.mem_range.mp hi
        show va_Z "QuietChecker$Kind" (pq_nm i) "LQuietChecker$Kind;" (.ref (pq_rho s.heap.size b aALL ad (1000 + i))) _ s s.heap
        rw [pq_r1 _ _ _ _ hi]
        exact va_Zof (hts _ (pq_m5 i hi)) (hts _ n3) (had i hi).1 hA
      · rw [List.mem_singleton.mp hq]
        exact va_Zof (hts _ n2) (hts _ n3) hall hA
    · rw [pq_kob] at hq
      obtain ⟨i, hi, rfl⟩ := List.mem_map.mp hq
      have hi := List.mem_range.mp hi
      show va_O "QuietChecker$Kind" (pq_rho s.heap.size b aALL ad (1000 + i)) _ s s.heap
      rw [pq_r1 _ _ _ _ hi]
      exact (had i hi).2.1
    · rw [pq_kof] at hq
      obtain ⟨i, hi, hq⟩ := List.mem_flatMap.mp hq
      have hi := List.mem_range.mp hi
      simp only [List.mem_cons, List.not_mem_nil, or_false] at hq
      rcases hq with rfl | rfl
      · show va_OF "QuietChecker$Kind" "level" "I" (.int (pq_lv i)) (pq_rho s.heap.size b aALL ad (1000 + i)) _ s s.heap
        rw [pq_r1 _ _ _ _ hi]
        exact vk_OFof (had i hi).1 (va_eqt (hs _ (pq_m3 i hi))) hA
      · show va_OF "QuietChecker$Kind" "op" "I" (.int (pq_op i)) (pq_rho s.heap.size b aALL ad (1000 + i)) _ s s.heap
        rw [pq_r1 _ _ _ _ hi]
        exact vk_OFof (had i hi).1 (va_eqt (hs _ (pq_m4 i hi))) hA
  · obtain ⟨⟨i1, i2⟩, ⟨i3, i4⟩, i5⟩ := pq_m7
    obtain ⟨e1, e2, e3⟩ := pq_m8
    exact ⟨vx_Zqof (hts _ i3) (hts _ i5) (hs _ i1) hA, vx_Zqof (hts _ i4) (hts _ i5) (hs _ i2) hA, fun w hw => va_tabs (e1 w hw).2 rfl (hts w (e1 w hw).1), va_Nc.of (hs _ e2), va_Nc.of (hs _ e3)⟩
/-- THE LAW, from its entry: all that is left is the run of its loop in the pure machine -/
theorem pq_whole {p : Program} {e : Env} {s : State} {m : MethodId} {below : List Frame} {meth : Method} {c : Code} (l : Launch) (htr : l.stackTraces = false) {b Ln : Nat} {xs : Nat → Int32} {n : Nat} (hrun : pl_run xs Ln n 0 20 [(3, .ref 74), (2, .ref 39), (1, .ref 0), (0, .ref 900)] [] pm_hA = some 1) (C0 : lw_At p s m meth c b Ln xs) : W p l e room_1 s m #[Value.ref b] below meth c s.heap [] 0 0 (lw_Z below #[Value.ref b] s) (entryFrame m ([Value.ref b] : List Value).toArray 7) := by
  obtain ⟨rho, D, cy, hinj, hr9, hr0, hK, hKS, hPT, hAO⟩ := pq_start C0
  exact pl_start hinj (fun _ _ _ h => by cases h) htr hrun C0 hr9 hr0 hK hKS hPT hAO
