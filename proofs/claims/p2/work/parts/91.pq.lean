/-! What holds at the law's start: the kinds, the spellings, the tables, the addresses -/
abbrev pq_FL : List Cond := flatC (Jvm.Cond.and given_1 narrow_1)
def pq_nm (i : Nat) : String := (pm_kst.getD i ("", "", "", 0)).2.1
def pq_tm (i : Nat) : Term := .static "QuietChecker$Kind" (pq_nm i) "LQuietChecker$Kind;"
def pq_lv (i : Nat) : Int32 := match pm_kv pm_kof (1000 + i) 1 with
  | some (.int x) => x
  | _ => 0
def pq_op (i : Nat) : Int32 := match pm_kv pm_kof (1000 + i) 2 with
  | some (.int x) => x
  | _ => 0
/-- where the spellings stand in the pool of the kinds' class -/
def pq_sl : List Nat := [158, 158, 158, 158, 167, 170, 173, 176, 179, 182, 185, 188, 191, 197, 200, 203, 206, 209, 212, 215, 218, 221, 224, 227, 230, 233, 236, 239, 242, 245, 248, 251, 254, 257, 260, 263, 266, 269, 272]
def pq_st (i : Nat) : Term := .string "QuietChecker$Kind" (pq_sl.getD i 0)
def pq_sv (i : Nat) : Term := .field (pq_st i) "java/lang/String" "value" "[B"
def pq_bt (i : Nat) : List Int32 := pm_spl.getD i []
def pq_ta : Term := .static "QuietChecker$Kind" "ALL" "[LQuietChecker$Kind;"
def pq_at (l : List Nat) (f : Nat → Cond) : Bool := (List.range 39).all (fun i => decide (pq_FL[l.getD i 0]? = some (f i)))
theorem pq_mem {l : List Nat} {f : Nat → Cond} (h : pq_at l f = true) {i : Nat} (hi : i < 39) : f i ∈ pq_FL := List.mem_of_getElem? (of_decide_eq_true (List.all_eq_true.mp h i (List.mem_range.mpr hi)))
set_option maxRecDepth 100000 in
theorem pq_m1a : pq_at [68, 14, 9, 4, 78, 83, 73, 188, 113, 183, 118, 123, 401, 406, 411, 416, 421, 426, 431, 436, 441, 446, 133, 451, 148, 153, 138, 143, 158, 163, 173, 88, 93, 128, 168, 103, 178, 108, 98] (fun i => Cond.exactly (pq_tm i) "QuietChecker$Kind") = true := by decide +kernel
theorem pq_m1 (i : Nat) (hi : i < 39) : Cond.exactly (pq_tm i) "QuietChecker$Kind" ∈ pq_FL := pq_mem (f := fun i => Cond.exactly (pq_tm i) "QuietChecker$Kind") pq_m1a hi
set_option maxRecDepth 100000 in
theorem pq_m2a : pq_at [69, 15, 10, 5, 79, 84, 74, 189, 114, 184, 119, 124, 402, 407, 412, 417, 422, 427, 432, 437, 442, 447, 134, 452, 149, 154, 139, 144, 159, 164, 174, 89, 94, 129, 169, 104, 179, 109, 99] (fun i => Cond.eq (.field (pq_tm i) "java/lang/Enum" "ordinal" "I") (.int (Int32.ofNat i))) = true := by decide +kernel
theorem pq_m2 (i : Nat) (hi : i < 39) : Cond.eq (.field (pq_tm i) "java/lang/Enum" "ordinal" "I") (.int (Int32.ofNat i)) ∈ pq_FL := pq_mem (f := fun i => Cond.eq (.field (pq_tm i) "java/lang/Enum" "ordinal" "I") (.int (Int32.ofNat i))) pq_m2a hi
set_option maxRecDepth 100000 in
theorem pq_m3a : pq_at [71, 17, 12, 7, 81, 86, 76, 191, 116, 186, 121, 126, 404, 409, 414, 419, 424, 429, 434, 439, 444, 449, 136, 454, 151, 156, 141, 146, 161, 166, 176, 91, 96, 131, 171, 106, 181, 111, 101] (fun i => Cond.eq (.field (pq_tm i) "QuietChecker$Kind" "level" "I") (.int (pq_lv i))) = true := by decide +kernel
theorem pq_m3 (i : Nat) (hi : i < 39) : Cond.eq (.field (pq_tm i) "QuietChecker$Kind" "level" "I") (.int (pq_lv i)) ∈ pq_FL := pq_mem (f := fun i => Cond.eq (.field (pq_tm i) "QuietChecker$Kind" "level" "I") (.int (pq_lv i))) pq_m3a hi
set_option maxRecDepth 100000 in
theorem pq_m4a : pq_at [72, 18, 13, 8, 82, 87, 77, 192, 117, 187, 122, 127, 405, 410, 415, 420, 425, 430, 435, 440, 445, 450, 137, 455, 152, 157, 142, 147, 162, 167, 177, 92, 97, 132, 172, 107, 182, 112, 102] (fun i => Cond.eq (.field (pq_tm i) "QuietChecker$Kind" "op" "I") (.int (pq_op i))) = true := by decide +kernel
theorem pq_m4 (i : Nat) (hi : i < 39) : Cond.eq (.field (pq_tm i) "QuietChecker$Kind" "op" "I") (.int (pq_op i)) ∈ pq_FL := pq_mem (f := fun i => Cond.eq (.field (pq_tm i) "QuietChecker$Kind" "op" "I") (.int (pq_op i))) pq_m4a hi
set_option maxRecDepth 100000 in
theorem pq_s1a : pq_at [566, 566, 566, 566, 577, 584, 570, 703, 617, 695, 623, 632, 713, 718, 723, 728, 734, 740, 745, 751, 757, 763, 645, 768, 660, 665, 650, 655, 670, 675, 685, 591, 596, 640, 680, 607, 690, 612, 602] (fun i => Cond.exactly (pq_st i) "java/lang/String") = true := by decide +kernel
theorem pq_s1 (i : Nat) (hi : i < 39) : Cond.exactly (pq_st i) "java/lang/String" ∈ pq_FL := pq_mem (f := fun i => Cond.exactly (pq_st i) "java/lang/String") pq_s1a hi
set_option maxRecDepth 100000 in
theorem pq_s2a : pq_at [567, 567, 567, 567, 578, 585, 571, 704, 618, 696, 624, 633, 714, 719, 724, 729, 735, 741, 746, 752, 758, 764, 646, 769, 661, 666, 651, 656, 671, 676, 686, 592, 597, 641, 681, 608, 691, 613, 603] (fun i => Cond.eq (.field (pq_st i) "java/lang/String" "coder" "B") (.int 0)) = true := by decide +kernel
theorem pq_s2 (i : Nat) (hi : i < 39) : Cond.eq (.field (pq_st i) "java/lang/String" "coder" "B") (.int 0) ∈ pq_FL := pq_mem (f := fun i => Cond.eq (.field (pq_st i) "java/lang/String" "coder" "B") (.int 0)) pq_s2a hi
set_option maxRecDepth 100000 in
theorem pq_s3a : pq_at [568, 568, 568, 568, 579, 586, 572, 705, 619, 697, 625, 634, 715, 720, 725, 730, 736, 742, 747, 753, 759, 765, 647, 770, 662, 667, 652, 657, 672, 677, 687, 593, 598, 642, 682, 609, 692, 614, 604] (fun i => Cond.arrayOf (pq_sv i) .byte) = true := by decide +kernel
theorem pq_s3 (i : Nat) (hi : i < 39) : Cond.arrayOf (pq_sv i) .byte ∈ pq_FL := pq_mem (f := fun i => Cond.arrayOf (pq_sv i) .byte) pq_s3a hi
set_option maxRecDepth 100000 in
theorem pq_s4a : pq_at [569, 569, 569, 569, 580, 587, 573, 706, 620, 698, 626, 635, 716, 721, 726, 731, 737, 743, 748, 754, 760, 766, 648, 771, 663, 668, 653, 658, 673, 678, 688, 594, 599, 643, 683, 610, 693, 615, 605] (fun i => Cond.eq (.length (pq_sv i)) (.int (Int32.ofNat (pq_bt i).length))) = true := by decide +kernel
theorem pq_s4 (i : Nat) (hi : i < 39) : Cond.eq (.length (pq_sv i)) (.int (Int32.ofNat (pq_bt i).length)) ∈ pq_FL := pq_mem (f := fun i => Cond.eq (.length (pq_sv i)) (.int (Int32.ofNat (pq_bt i).length))) pq_s4a hi
set_option maxRecDepth 100000 in
theorem pq_s6a : pq_at [70, 16, 11, 6, 80, 85, 75, 190, 115, 185, 120, 125, 403, 408, 413, 418, 423, 428, 433, 438, 443, 448, 135, 453, 150, 155, 140, 145, 160, 165, 175, 90, 95, 130, 170, 105, 180, 110, 100] (fun i => Cond.eq (.field (pq_tm i) "QuietChecker$Kind" "spelling" "Ljava/lang/String;") (pq_st i)) = true := by decide +kernel
theorem pq_s6 (i : Nat) (hi : i < 39) : Cond.eq (.field (pq_tm i) "QuietChecker$Kind" "spelling" "Ljava/lang/String;") (pq_st i) ∈ pq_FL := pq_mem (f := fun i => Cond.eq (.field (pq_tm i) "QuietChecker$Kind" "spelling" "Ljava/lang/String;") (pq_st i)) pq_s6a hi
set_option maxRecDepth 100000 in
theorem pq_s8a : pq_at [24, 25, 26, 27, 28, 29, 30, 31, 32, 33, 34, 35, 36, 37, 38, 39, 40, 41, 42, 43, 44, 45, 46, 47, 48, 49, 50, 51, 52, 53, 54, 55, 56, 57, 58, 59, 60, 61, 62] (fun i => Cond.eq (.elem pq_ta (.int (Int32.ofNat i))) (pq_tm i)) = true := by decide +kernel
theorem pq_s8 (i : Nat) (hi : i < 39) : Cond.eq (.elem pq_ta (.int (Int32.ofNat i))) (pq_tm i) ∈ pq_FL := pq_mem (f := fun i => Cond.eq (.elem pq_ta (.int (Int32.ofNat i))) (pq_tm i)) pq_s8a hi
def pq_p5 : List (List Nat) := [[], [], [], [], [581, 582, 583], [588, 589, 590], [574, 575, 576], [707, 708, 709, 710, 711, 712], [621, 622], [699, 700, 701, 702], [627, 628, 629, 630, 631], [636, 637, 638, 639], [717], [722], [727], [732, 733], [738, 739], [744], [749, 750], [755, 756], [761, 762], [767], [649], [772], [664], [669], [654], [659], [674], [679], [689], [595], [600], [644], [684], [611], [694], [616], [606]]
set_option maxRecDepth 100000 in
theorem pq_s5a : (List.range 39).all (fun i => (List.range (pq_bt i).length).all (fun j => decide (pq_FL[(pq_p5.getD i []).getD j 0]? = some (Cond.eq (.elem (pq_sv i) (.int (Int32.ofNat j))) (.int ((pq_bt i).getD j 0)))))) = true := by decide +kernel
theorem pq_s5 (i : Nat) (hi : i < 39) (j : Nat) (hj : j < (pq_bt i).length) : Cond.eq (.elem (pq_sv i) (.int (Int32.ofNat j))) (.int ((pq_bt i).getD j 0)) ∈ pq_FL := List.mem_of_getElem? (of_decide_eq_true (List.all_eq_true.mp (List.all_eq_true.mp pq_s5a i (List.mem_range.mpr hi)) j (List.mem_range.mpr hj)))
set_option maxRecDepth 100000 in
theorem pq_m5 : ∀ i, i < 39 → Cond.laysStatic "QuietChecker$Kind" (pq_nm i) "LQuietChecker$Kind;" ∈ lw_tbl := by decide +kernel
set_option maxRecDepth 100000 in
theorem pq_m6 : Cond.exactly (.static "QuietChecker$Kind" "ALL" "[LQuietChecker$Kind;") "[LQuietChecker$Kind;" ∈ pq_FL ∧ Cond.laysStatic "QuietChecker$Kind" "ALL" "[LQuietChecker$Kind;" ∈ lw_tbl ∧ Cond.initialized "QuietChecker$Kind" ∈ lw_tbl := by decide +kernel
set_option maxRecDepth 100000 in
theorem pq_m7 : (Cond.isRef (.static Bundle.tN "UNASSIGNED_STACK" Bundle.steD) ∈ pq_FL ∧ Cond.isRef (.static Bundle.tN "SUPPRESSED_SENTINEL" Bundle.listD) ∈ pq_FL) ∧ (Cond.laysStatic Bundle.tN "UNASSIGNED_STACK" Bundle.steD ∈ lw_tbl ∧ Cond.laysStatic Bundle.tN "SUPPRESSED_SENTINEL" Bundle.listD ∈ lw_tbl) ∧ Cond.initialized Bundle.tN ∈ lw_tbl := by decide +kernel
set_option maxRecDepth 100000 in
theorem pq_m8 : (∀ w ∈ pt_ex, w ∈ lw_tbl ∧ w.onTables = true) ∧ Cond.not (.castable (pt_xn 1) (pt_xn 0)) ∈ pq_FL ∧ Cond.not (.castable (pt_xn 2) (pt_xn 0)) ∈ pq_FL := by decide +kernel
set_option maxRecDepth 100000 in
theorem pq_kst : pm_kst = (List.range 39).map (fun i => ("QuietChecker$Kind", pq_nm i, "LQuietChecker$Kind;", 1000 + i)) ++ [("QuietChecker$Kind", "ALL", "[LQuietChecker$Kind;", 2000)] := by decide +kernel
set_option maxRecDepth 100000 in
theorem pq_s7 : Cond.arrayOf pq_ta (.object "QuietChecker$Kind") ∈ pq_FL ∧ Cond.eq (.length pq_ta) (.int (Int32.ofNat 39)) ∈ pq_FL := by decide +kernel
set_option maxRecDepth 100000 in
theorem pq_s9 : (Cond.eq (.static "java/lang/String" "COMPACT_STRINGS" "Z") (.int 1) ∈ pq_FL ∧ Cond.laysStatic "java/lang/String" "COMPACT_STRINGS" "Z" ∈ lw_tbl ∧ Cond.initialized "java/lang/String" ∈ lw_tbl) ∧ (Cond.isRef (.static "jdk/internal/util/Preconditions" "SIOOBE_FORMATTER" "Ljava/util/function/BiFunction;") ∈ pq_FL ∧ Cond.laysStatic "jdk/internal/util/Preconditions" "SIOOBE_FORMATTER" "Ljava/util/function/BiFunction;" ∈ lw_tbl ∧ Cond.initialized "jdk/internal/util/Preconditions" ∈ lw_tbl) ∧ pm_nw ∈ lw_tbl := by decide +kernel
set_option maxRecDepth 100000 in
theorem pq_bl : ∀ i, i < 39 → (pq_bt i).length ≤ 6 := by decide +kernel
set_option maxRecDepth 100000 in
theorem pq_kba : pm_kba = (List.range 39).map (fun i => (4000 + i, pq_bt i)) := by decide +kernel
set_option maxRecDepth 100000 in
theorem pq_kob : pm_kob = (List.range 39).map (fun i => (1000 + i, "QuietChecker$Kind")) ++ (List.range 39).map (fun i => (3000 + i, "java/lang/String")) := by decide +kernel
set_option maxRecDepth 100000 in
theorem pq_kof : pm_kof = (List.range 39).flatMap (fun i => [(1000 + i, 0, .ref (3000 + i)), (1000 + i, 1, .int (pq_lv i)), (1000 + i, 2, .int (pq_op i)), (3000 + i, 3, .ref (4000 + i)), (3000 + i, 4, .int 0)]) := by decide +kernel
/-- the addresses: cells from the heap's end on, the script, the constants -/
def pq_rho (sz b aALL : Nat) (ad : Nat → Nat) (sd : Nat → Nat × Nat) (i : Nat) : Nat := if i ≤ 400 then sz + i else if i = 900 then b else if 1000 ≤ i ∧ i < 1039 then ad (i - 1000) else if i = 2000 then aALL else if 3000 ≤ i ∧ i < 3039 then (sd (i - 3000)).1 else if 4000 ≤ i ∧ i < 4039 then (sd (i - 4000)).2 else sz + i
theorem pq_r1 (sz b aALL : Nat) (ad : Nat → Nat) (sd : Nat → Nat × Nat) {i : Nat} (h : i < 39) : pq_rho sz b aALL ad sd (1000 + i) = ad i := by
  unfold pq_rho
  rw [if_neg (by omega), if_neg (by omega), if_pos (by omega), Nat.add_sub_cancel_left]
theorem pq_r3 (sz b aALL : Nat) (ad : Nat → Nat) (sd : Nat → Nat × Nat) {i : Nat} (h : i < 39) : pq_rho sz b aALL ad sd (3000 + i) = (sd i).1 := by
  unfold pq_rho
  rw [if_neg (by omega), if_neg (by omega), if_neg (by omega), if_neg (by omega), if_pos (by omega), Nat.add_sub_cancel_left]
theorem pq_r4 (sz b aALL : Nat) (ad : Nat → Nat) (sd : Nat → Nat × Nat) {i : Nat} (h : i < 39) : pq_rho sz b aALL ad sd (4000 + i) = (sd i).2 := by
  unfold pq_rho
  rw [if_neg (by omega), if_neg (by omega), if_neg (by omega), if_neg (by omega), if_neg (by omega), if_pos (by omega), Nat.add_sub_cancel_left]
theorem pq_rk (sz b aALL : Nat) (ad : Nat → Nat) (sd : Nat → Nat × Nat) {i : Nat} (h1 : 1039 ≤ i) (h2 : i < 1064) : pq_rho sz b aALL ad sd i = sz + i := by
  unfold pq_rho
  rw [if_neg (by omega), if_neg (by omega), if_neg (by omega), if_neg (by omega), if_neg (by omega), if_neg (by omega)]
theorem pq_arr {s : State} {args : Array Value} {ty : FieldType} (h : (Cond.arrayClass ty).before args s = true) : ∃ cA : ClassId, ArrOfT s cA ty ∧ s.vm.findClass ("[" ++ ty.toString) = some cA := by
  obtain ⟨cA, kA, comp, h1, h2, h3⟩ := Cond.arrayClass_spec h
  exact ⟨cA, fun n z => ⟨fun k h => (by cases h), kA, h2, comp, h3⟩, h1⟩
set_option maxRecDepth 100000 in
theorem pq_start {p : Program} {s : State} {m : MethodId} {meth : Method} {c : Code} {b Ln : Nat} {xs : Nat → Int32} (C0 : lw_At p s m meth c b Ln xs) : ∃ (rho : Nat → Nat) (D : va_G) (cy : Nat → ClassId), (∀ a b, pm_kc a = true → pm_kc b = true → rho a = rho b → a = b) ∧ rho 900 = b ∧ (∀ i, i ≤ 400 → rho i = s.heap.size + i) ∧ va_K D pm_cl (pm_tys cy) s ∧ pm_KS rho (fun q : Nat => s.heap.size ≤ q) s s.heap ∧ pt_K (fun q : Nat => s.heap.size ≤ q) s s.heap ∧ va_AO "QuietChecker$Kind" s := by
  obtain ⟨hx, hb0, hr, hml, hown0, hts, hX, hbl, hlocks, hgv⟩ := C0
  have hs := flat_of_before _ hgv
  have hA : ∀ a : Nat, a < s.heap.size → ¬ (fun q : Nat => s.heap.size ≤ q) a := fun a h => Nat.not_le.mpr h
  obtain ⟨n1, n2, n3⟩ := pq_m6
  -- the kinds
  have h0 : ∀ i : Nat, ∃ t : Nat, i < 39 → (pq_tm i).eval #[Value.ref b] s none [] s = some (.ref t) ∧ va_O "QuietChecker$Kind" t (fun q : Nat => s.heap.size ≤ q) s s.heap ∧ t < s.heap.size := by
    intro i
    by_cases hi : i < 39
    · obtain ⟨a, c, cell, k, q1, q2, q3, q4, q5, q6, -⟩ := Cond.exactly_spec (hs _ (pq_m1 i hi))
      have hlt := (Array.getElem?_eq_some_iff.mp q3).1
      exact ⟨a, fun _ => ⟨q1, ⟨cell, q3, q5, by rw [q6]; exact q2, hA a hlt⟩, hlt⟩⟩
    · exact ⟨0, fun h => absurd h hi⟩
  obtain ⟨ad, had⟩ := Classical.axiomOfChoice h0
  obtain ⟨aALL, hall, hTA⟩ := va_Tof (tm := pq_ta) (N := 39) (f := fun j => .ref (ad j)) (A := fun q : Nat => s.heap.size ≤ q) (by decide) (hs _ pq_s7.1) (va_eqt (hs _ pq_s7.2)) (fun j hj => va_eqv (hs _ (pq_s8 j hj)) (had j hj).1) hA
  -- the spellings
  have h2 : ∀ i : Nat, ∃ q : Nat × Nat, i < 39 → (pq_st i).eval #[Value.ref b] s none [] s = some (.ref q.1) ∧ va_O "java/lang/String" q.1 (fun q : Nat => s.heap.size ≤ q) s s.heap ∧ va_OF "java/lang/String" "coder" "B" (.int 0) q.1 (fun q : Nat => s.heap.size ≤ q) s s.heap ∧ va_OF "java/lang/String" "value" "[B" (.ref q.2) q.1 (fun q : Nat => s.heap.size ≤ q) s s.heap ∧ va_T .byte q.2 (pq_bt i).length (fun j => .int ((pq_bt i).getD j 0)) (fun q : Nat => s.heap.size ≤ q) s s.heap := by
    intro i
    by_cases hi : i < 39
    · obtain ⟨a, c, cA, kA, q1, q2, q3, q4, q5, q6, -⟩ := Cond.exactly_spec (hs _ (pq_s1 i hi))
      obtain ⟨t, ht, hT⟩ := va_Tof (tm := pq_sv i) (ty := .byte) (N := (pq_bt i).length) (f := fun j => .int ((pq_bt i).getD j 0)) (A := fun q : Nat => s.heap.size ≤ q) (Nat.lt_of_le_of_lt (pq_bl i hi) (by decide)) (hs _ (pq_s3 i hi)) (va_eqt (hs _ (pq_s4 i hi))) (fun j hj => va_eqt (hs _ (pq_s5 i hi j hj))) hA
      exact ⟨(a, t), fun _ => ⟨q1, ⟨cA, q3, q5, by rw [q6]; exact q2, hA a (Array.getElem?_eq_some_iff.mp q3).1⟩, vk_OFof q1 (va_eqt (hs _ (pq_s2 i hi))) hA, vk_OFof q1 ht hA, hT⟩⟩
    · exact ⟨(0, 0), fun h => absurd h hi⟩
  obtain ⟨sd, hsd⟩ := Classical.axiomOfChoice h2
  have hinj0 : ∀ i j, i < 39 → j < 39 → ad i = ad j → i = j := by
    intro i j hi hj hij
    have e1 := va_eqt (hs _ (pq_m2 i hi))
    have e2 := va_eqt (hs _ (pq_m2 j hj))
    rw [va_fe (had i hi).1] at e1
    rw [va_fe (had j hj).1, ← hij, e1] at e2
    have e3 : Int32.ofNat i = Int32.ofNat j := by
      have := Option.some.inj e2
      exact Value.int.inj this
    exact (nI_eq (by omega) (by omega)).mp e3
  -- the classes
  have h1 : ∀ ci : Nat, ∃ q : ClassId × (Nat → Nat), ci < 7 → u_Kn s (pm_clN ci).1 (pm_clN ci).2.1 (pm_clN ci).2.2 q.1 q.2 := by
    intro ci
    by_cases hci : ci < 7
    · have hA1 := List.all_eq_true.mp pn_mA ci (List.mem_range.mpr hci)
      simp only [Bool.and_eq_true, decide_eq_true_eq] at hA1
      obtain ⟨-, -, w3, -, -, -, -, -, -, -, w4⟩ := hA1
      obtain ⟨cC, iS, hKn⟩ := u_known (C := (pm_clN ci).1) (T := (pm_clN ci).2.1) (N := (pm_clN ci).2.2) (n := (pm_clN ci).2.2) hts (fun w hw => pl_sub w (pm_uw hci w hw)) (by rw [w4]; exact hts _ (pl_sub _ (pm_mem w3)))
      exact ⟨(cC, iS), fun _ => hKn⟩
    · exact ⟨(0, fun _ => 0), fun h => absurd h hci⟩
  obtain ⟨DD, hDD⟩ := Classical.axiomOfChoice h1
  -- the arrays
  have hw := pn_ac_all
  simp only [Bool.and_eq_true] at hw
  obtain ⟨a0, a1, a2, a3, a4⟩ := hw
  obtain ⟨c0, p0, f0⟩ := pq_arr (hts _ (pl_sub _ (pm_mem a0)))
  obtain ⟨c1, p1, f1⟩ := pq_arr (hts _ (pl_sub _ (pm_mem a1)))
  obtain ⟨c2, p2, f2⟩ := pq_arr (hts _ (pl_sub _ (pm_mem a2)))
  obtain ⟨c3, p3, f3⟩ := pq_arr (hts _ (pl_sub _ (pm_mem a3)))
  obtain ⟨c4, p4, f4⟩ := pq_arr (hts _ (pl_sub _ (pm_mem a4)))
  have hov : (Cond.arrayOver (.object "QuietChecker$Kind")).before #[Value.ref b] s = true := hts _ (List.mem_of_getElem? (of_decide_eq_true pn_ao))
  obtain ⟨comp, c5, k5, g1, -, g3, g4, g5⟩ := Cond.arrayOver_spec hov
  refine ⟨pq_rho s.heap.size b aALL ad sd, (fun ci => (DD ci).1, fun ci => (DD ci).2), (fun k => match k with | 0 => c0 | 1 => c1 | 2 => c2 | 3 => c3 | 4 => c4 | _ => c5), ?_, ?_, ?_, ?_, ?_, ?_, va_AO.of hov⟩
  · intro x y hkx hky hxy
    obtain ⟨x1, x2⟩ := Bool.and_eq_true_iff.mp hkx
    obtain ⟨y1, y2⟩ := Bool.and_eq_true_iff.mp hky
    have x1 := Nat.le_of_ble_eq_true x1
    have x2 := pm_blt x2
    have y1 := Nat.le_of_ble_eq_true y1
    have y2 := pm_blt y2
    have hk1 : ∀ i, 1000 ≤ i → i < 1039 → pq_rho s.heap.size b aALL ad sd i = ad (i - 1000) := fun i h1 h2 => by
      have := pq_r1 s.heap.size b aALL ad sd (i := i - 1000) (by omega)
      rw [show 1000 + (i - 1000) = i by omega] at this
      exact this
    by_cases hx9 : x < 1039
    · rw [hk1 x x1 hx9] at hxy
      have lx := (had (x - 1000) (by omega)).2.2
      by_cases hy9 : y < 1039
      · rw [hk1 y y1 hy9] at hxy
        have := hinj0 _ _ (by omega) (by omega) hxy
        omega
      · rw [pq_rk _ _ _ _ _ (by omega) y2] at hxy
        omega
    · rw [pq_rk _ _ _ _ _ (by omega) x2] at hxy
      by_cases hy9 : y < 1039
      · have ly := (had (y - 1000) (by omega)).2.2
        rw [hk1 y y1 hy9] at hxy
        omega
      · rw [pq_rk _ _ _ _ _ (by omega) y2] at hxy
        omega
  · unfold pq_rho
    rw [if_neg (by omega), if_pos rfl]
  · intro i hi
    unfold pq_rho
    rw [if_pos hi]
  · refine ⟨fun ci q hq => ?_, fun k q hq => ?_⟩
    · have hlt : ci < 7 := (List.getElem?_eq_some_iff.mp hq).1
      rw [pm_cl_at hlt] at hq
      cases hq
      exact hDD ci hlt
    · unfold pm_tys at hq
      match k, hq with
      | 0, hq => cases hq; exact ⟨p0, f0⟩
      | 1, hq => cases hq; exact ⟨p1, f1⟩
      | 2, hq => cases hq; exact ⟨p2, f2⟩
      | 3, hq => cases hq; exact ⟨p3, f3⟩
      | 4, hq => cases hq; exact ⟨p4, f4⟩
      | 5, hq => cases hq; exact ⟨fun n z => ⟨fun k h => (by cases h), k5, g3, comp, g4⟩, k5, comp, g3, g4, g1, g5⟩
      | k + 6, hq => simp at hq
  · refine ⟨fun q hq => ?_, fun q hq => ?_, fun q hq => ?_, fun q hq => ?_, ?_, ?_, ?_, ?_⟩
    · rw [pq_kst] at hq
      rcases List.mem_append.mp hq with hq | hq
      · obtain ⟨i, hi, rfl⟩ := List.mem_map.mp hq
        have hi := List.mem_range.mp hi
        show va_Z "QuietChecker$Kind" (pq_nm i) "LQuietChecker$Kind;" (.ref (pq_rho s.heap.size b aALL ad sd (1000 + i))) _ s s.heap
        rw [pq_r1 _ _ _ _ _ hi]
        exact va_Zof (hts _ (pq_m5 i hi)) (hts _ n3) (had i hi).1 hA
      · rw [List.mem_singleton.mp hq]
        exact va_Zof (hts _ n2) (hts _ n3) hall hA
    · rw [pq_kob] at hq
      rcases List.mem_append.mp hq with hq | hq
      · obtain ⟨i, hi, rfl⟩ := List.mem_map.mp hq
        have hi := List.mem_range.mp hi
        show va_O "QuietChecker$Kind" (pq_rho s.heap.size b aALL ad sd (1000 + i)) _ s s.heap
        rw [pq_r1 _ _ _ _ _ hi]
        exact (had i hi).2.1
      · obtain ⟨i, hi, rfl⟩ := List.mem_map.mp hq
        have hi := List.mem_range.mp hi
        show va_O "java/lang/String" (pq_rho s.heap.size b aALL ad sd (3000 + i)) _ s s.heap
        rw [pq_r3 _ _ _ _ _ hi]
        exact (hsd i hi).2.1
    · rw [pq_kof] at hq
      obtain ⟨i, hi, hq⟩ := List.mem_flatMap.mp hq
      have hi := List.mem_range.mp hi
      simp only [List.mem_cons, List.not_mem_nil, or_false] at hq
      rcases hq with rfl | rfl | rfl | rfl | rfl
      · show va_OF "QuietChecker$Kind" "spelling" "Ljava/lang/String;" (.ref (pq_rho s.heap.size b aALL ad sd (3000 + i))) (pq_rho s.heap.size b aALL ad sd (1000 + i)) _ s s.heap
        rw [pq_r1 _ _ _ _ _ hi, pq_r3 _ _ _ _ _ hi]
        exact vk_OFof (had i hi).1 (va_eqv (hs _ (pq_s6 i hi)) (hsd i hi).1) hA
      · show va_OF "QuietChecker$Kind" "level" "I" (.int (pq_lv i)) (pq_rho s.heap.size b aALL ad sd (1000 + i)) _ s s.heap
        rw [pq_r1 _ _ _ _ _ hi]
        exact vk_OFof (had i hi).1 (va_eqt (hs _ (pq_m3 i hi))) hA
      · show va_OF "QuietChecker$Kind" "op" "I" (.int (pq_op i)) (pq_rho s.heap.size b aALL ad sd (1000 + i)) _ s s.heap
        rw [pq_r1 _ _ _ _ _ hi]
        exact vk_OFof (had i hi).1 (va_eqt (hs _ (pq_m4 i hi))) hA
      · show va_OF "java/lang/String" "value" "[B" (.ref (pq_rho s.heap.size b aALL ad sd (4000 + i))) (pq_rho s.heap.size b aALL ad sd (3000 + i)) _ s s.heap
        rw [pq_r3 _ _ _ _ _ hi, pq_r4 _ _ _ _ _ hi]
        exact (hsd i hi).2.2.2.1
      · show va_OF "java/lang/String" "coder" "B" (.int 0) (pq_rho s.heap.size b aALL ad sd (3000 + i)) _ s s.heap
        rw [pq_r3 _ _ _ _ _ hi]
        exact (hsd i hi).2.2.1
    · rw [pq_kba] at hq
      obtain ⟨i, hi, rfl⟩ := List.mem_map.mp hq
      have hi := List.mem_range.mp hi
      show va_T .byte (pq_rho s.heap.size b aALL ad sd (4000 + i)) (pq_bt i).length (fun j => .int ((pq_bt i).getD j 0)) _ s s.heap
      rw [pq_r4 _ _ _ _ _ hi]
      exact (hsd i hi).2.2.2.2
    · obtain ⟨cell, h1, h2, h3, h4, h5, h6, h7⟩ := hTA
      have e2 : pq_rho s.heap.size b aALL ad sd 2000 = aALL := by
        unfold pq_rho
        rw [if_neg (by omega), if_neg (by omega), if_neg (by omega), if_pos rfl]
      rw [e2]
      exact ⟨cell, h1, h2, h3, h4, h5, fun j hj => by show cell.slots[j]? = some (Value.ref (pq_rho s.heap.size b aALL ad sd (1000 + j))); rw [pq_r1 _ _ _ _ _ hj]; exact h6 j hj, h7⟩
    · exact va_Zof (hts _ pq_s9.1.2.1) (hts _ pq_s9.1.2.2) (va_eqt (hs _ pq_s9.1.1)) hA
    · exact va_Zqof (hts _ pq_s9.2.1.2.1) (hts _ pq_s9.2.1.2.2) (hs _ pq_s9.2.1.1) hA
    · exact va_Nw.of rfl (hts _ pq_s9.2.2)
  · obtain ⟨⟨i1, i2⟩, ⟨i3, i4⟩, i5⟩ := pq_m7
    obtain ⟨e1, e2, e3⟩ := pq_m8
    exact ⟨vx_Zqof (hts _ i3) (hts _ i5) (hs _ i1) hA, vx_Zqof (hts _ i4) (hts _ i5) (hs _ i2) hA, fun w hw => va_tabs (e1 w hw).2 rfl (hts w (e1 w hw).1), va_Nc.of (hs _ e2), va_Nc.of (hs _ e3)⟩
/-- THE LAW, from its entry: all that is left is the run of its loop in the pure machine -/
theorem pq_whole {p : Program} {e : Env} {s : State} {m : MethodId} {below : List Frame} {meth : Method} {c : Code} (l : Launch) (htr : l.stackTraces = false) {b Ln : Nat} {xs : Nat → Int32} {n : Nat} (hrun : pl_run xs Ln n 0 20 [(3, .ref 74), (2, .ref 39), (1, .ref 0), (0, .ref 900)] [] pm_hA = some 1) (C0 : lw_At p s m meth c b Ln xs) : W p l e room_1 s m #[Value.ref b] below meth c s.heap [] 0 0 (lw_Z below #[Value.ref b] s) (entryFrame m ([Value.ref b] : List Value).toArray 7) := by
  obtain ⟨rho, D, cy, hinj, hr9, hr0, hK, hKS, hPT, hAO⟩ := pq_start C0
  exact pl_start hinj ps_prim htr hrun C0 hr9 hr0 hK hKS hPT hAO
