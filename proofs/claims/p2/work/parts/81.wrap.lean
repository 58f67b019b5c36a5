/-! The law's wrappers, over the invariant -/
set_option maxRecDepth 10000 in
theorem w_174 {sz : Int} {A B Y : zF} {K : Nat} {T : zT} {x : Int} {y : Int} {w : Int} (hI : XI 0 sz A K T) (p1 : -2147483648 ≤ x ∧ x ≤ 2147483647) (p2 : -2147483648 ≤ y ∧ y ≤ 2147483647) (p3 : -2147483648 ≤ w ∧ w ≤ 2147483647) : ∃ (k : Int32) (A' Y' : zF) (K' : Nat) (T' : zT), XI 0 sz A' K' T' ∧ (∀ i j, i ≠ 74 → Y' i j = Y i j) ∧ ∃ n, ∀ m, n ≤ m → pw_run pm_swA m 1000 174 [.ref 0, .int (Int32.ofInt x), .int (Int32.ofInt y), .int (Int32.ofInt w)] (zc (A, B, Y, K, T)) = some (k, zc (A', B, Y', K', T')) := by
  obtain ⟨r, hr, n, hn⟩ := pyl_run (as := [.inr (.inr 0), .inl x, .inl y, .inl w]) (R := fun r => (∃ (A' : zF) (K' : Nat) (T' : zT), XI 0 sz A' K' T' ∧ r = .inl (none, zc (A', B, Y, K', T'))) ∨ ∃ (e : Nat) (A' : zF) (K' : Nat) (T' : zT), (e = 0 ∨ e = 1) ∧ XI 0 sz A' K' T' ∧ r = .inr (e, zc (A', B, Y, K', T'))) (y_154 (d := 1000) (by omega) hI p1 p2 p3 (fun A' K' T' h => Or.inl ⟨A', K', T', h, rfl⟩) (fun e A' K' T' he h => Or.inr ⟨e, A', K', T', he, h, rfl⟩))
  rcases hr with ⟨A', K', T', h, rfl⟩ | ⟨e, A', K', T', he, h, rfl⟩
  · exact ⟨0, A', Y, K', T', h, fun _ _ _ => rfl, pw_val (pc := 4) (idx := 7) (mj := 154) (d := 1000) (mi := 174) ⟨12, _, _, _, _, rfl, rfl, rfl, rfl, rfl⟩ rfl rfl rfl ⟨n, hn⟩ ⟨12, 19, _, _, _, rfl, rfl, rfl, rfl⟩⟩
  · rcases he with rfl | rfl
    · exact ⟨_, A', Y, K', T', h, fun _ _ _ => rfl, pw_thr (pc := 4) (idx := 7) (mj := 154) (d := 1000) (mi := 174) (hpc := 10) (k := 1) ⟨12, _, _, _, _, rfl, rfl, rfl, rfl, rfl⟩ rfl rfl rfl ⟨n, hn⟩ rfl rfl⟩
    · exact ⟨_, A', Y, K', T', h, fun _ _ _ => rfl, pw_thr (pc := 4) (idx := 7) (mj := 154) (d := 1000) (mi := 174) (hpc := 14) (k := 2) ⟨12, _, _, _, _, rfl, rfl, rfl, rfl, rfl⟩ rfl rfl rfl ⟨n, hn⟩ rfl rfl⟩
set_option maxRecDepth 10000 in
theorem w_175 {sz : Int} {A B Y : zF} {K : Nat} {T : zT} {x : Int} (hI : XI 0 sz A K T) (p1 : -2147483648 ≤ x ∧ x ≤ 2147483647) : ∃ (k : Int32) (A' Y' : zF) (K' : Nat) (T' : zT), XI 0 sz A' K' T' ∧ (∀ i j, i ≠ 74 → Y' i j = Y i j) ∧ ∃ n, ∀ m, n ≤ m → pw_run pm_swA m 1000 175 [.ref 0, .int (Int32.ofInt x), .ref 74] (zc (A, B, Y, K, T)) = some (k, zc (A', B, Y', K', T')) := by
  obtain ⟨r, hr, n, hn⟩ := pyl_run (as := [.inr (.inr 0), .inl x]) (R := fun r => (∃ (v : Int) (A' : zF) (K' : Nat) (T' : zT), XI 0 sz A' K' T' ∧ r = .inl (some (.int (Int32.ofInt v)), zc (A', B, Y, K', T'))) ∨ ∃ (e : Nat) (A' : zF) (K' : Nat) (T' : zT), (e = 0 ∨ e = 2) ∧ XI 0 sz A' K' T' ∧ r = .inr (e, zc (A', B, Y, K', T'))) (y_155 (d := 1000) (by omega) hI p1 (fun v A' K' T' h => Or.inl ⟨v, A', K', T', h, rfl⟩) (fun e A' K' T' he h => Or.inr ⟨e, A', K', T', he, h, rfl⟩))
  rcases hr with ⟨v, A', K', T', h, rfl⟩ | ⟨e, A', K', T', he, h, rfl⟩
  · obtain ⟨n2, hn2⟩ := pw_val (k := 0) (as := [.ref 0, .int (Int32.ofInt x), .ref 74]) (L := lv_args 0 [.ref 0, .int (Int32.ofInt x), .ref 74]) (S1 := [.int 0, .ref 74]) (v := some (.int (Int32.ofInt v))) (h := zc (A, B, Y, K, T)) (h1 := zc (A, B, Y, K, T)) (h2 := zc (A', B, Y, K', T')) (h3 := pm_setL (zc (A', B, Y, K', T')) 74 0 (Int32.ofInt v).toInt64) (pc := 4) (idx := 17) (mj := 155) (d := 1000) (mi := 175) ⟨12, _, _, _, _, rfl, rfl, rfl, rfl, rfl⟩ rfl rfl rfl ⟨n, hn⟩ ⟨12, 19, _, _, _, rfl, rfl, rfl, rfl⟩
    have e3 : pm_setL (zc (A', B, Y, K', T')) 74 0 (Int32.ofInt v).toInt64 = zc (A', B, zu Y 74 0 (Int32.ofInt v).toInt64.toInt, K', T') := by
      have := zc_L (A', B, Y, K', T') 74 0 (Int32.ofInt v).toInt64.toInt
      rw [Int64.ofInt_toInt] at this
      exact this
    rw [e3] at hn2
    refine ⟨0, A', _, K', T', h, fun i j hi => ?_, n2, hn2⟩
    rw [zu_ap, if_neg (fun q => hi q.1)]
  · rcases he with rfl | rfl
    · exact ⟨_, A', Y, K', T', h, fun _ _ _ => rfl, pw_thr (pc := 4) (idx := 17) (mj := 155) (d := 1000) (mi := 175) (hpc := 12) (k := 1) ⟨12, _, _, _, _, rfl, rfl, rfl, rfl, rfl⟩ rfl rfl rfl ⟨n, hn⟩ rfl rfl⟩
    · exact ⟨_, A', Y, K', T', h, fun _ _ _ => rfl, pw_thr (pc := 4) (idx := 17) (mj := 155) (d := 1000) (mi := 175) (hpc := 15) (k := 2) ⟨12, _, _, _, _, rfl, rfl, rfl, rfl, rfl⟩ rfl rfl rfl ⟨n, hn⟩ rfl rfl⟩
set_option maxRecDepth 10000 in
theorem w_176 {sz : Int} {A B Y : zF} {K : Nat} {T : zT} {x : Int} (hI : XI 0 sz A K T) (p1 : -2147483648 ≤ x ∧ x ≤ 2147483647) : ∃ (k : Int32) (A' Y' : zF) (K' : Nat) (T' : zT), XI 0 sz A' K' T' ∧ (∀ i j, i ≠ 74 → Y' i j = Y i j) ∧ ∃ n, ∀ m, n ≤ m → pw_run pm_swA m 1000 176 [.ref 0, .int (Int32.ofInt x), .ref 74] (zc (A, B, Y, K, T)) = some (k, zc (A', B, Y', K', T')) := by
  obtain ⟨r, hr, n, hn⟩ := pyl_run (as := [.inr (.inr 0), .inl x]) (R := fun r => (∃ (v : Int) (A' : zF) (K' : Nat) (T' : zT), XI 0 sz A' K' T' ∧ r = .inl (some (.int (Int32.ofInt v)), zc (A', B, Y, K', T'))) ∨ ∃ (e : Nat) (A' : zF) (K' : Nat) (T' : zT), (e = 0) ∧ XI 0 sz A' K' T' ∧ r = .inr (e, zc (A', B, Y, K', T'))) (y_156 (d := 1000) (by omega) hI p1 (fun v A' K' T' h => Or.inl ⟨v, A', K', T', h, rfl⟩) (fun e A' K' T' he h => Or.inr ⟨e, A', K', T', he, h, rfl⟩))
  rcases hr with ⟨v, A', K', T', h, rfl⟩ | ⟨e, A', K', T', he, h, rfl⟩
  · obtain ⟨n2, hn2⟩ := pw_val (k := 0) (as := [.ref 0, .int (Int32.ofInt x), .ref 74]) (L := lv_args 0 [.ref 0, .int (Int32.ofInt x), .ref 74]) (S1 := [.int 0, .ref 74]) (v := some (.int (Int32.ofInt v))) (h := zc (A, B, Y, K, T)) (h1 := zc (A, B, Y, K, T)) (h2 := zc (A', B, Y, K', T')) (h3 := pm_setL (zc (A', B, Y, K', T')) 74 0 (Int32.ofInt v).toInt64) (pc := 4) (idx := 23) (mj := 156) (d := 1000) (mi := 176) ⟨12, _, _, _, _, rfl, rfl, rfl, rfl, rfl⟩ rfl rfl rfl ⟨n, hn⟩ ⟨12, 16, _, _, _, rfl, rfl, rfl, rfl⟩
    have e3 : pm_setL (zc (A', B, Y, K', T')) 74 0 (Int32.ofInt v).toInt64 = zc (A', B, zu Y 74 0 (Int32.ofInt v).toInt64.toInt, K', T') := by
      have := zc_L (A', B, Y, K', T') 74 0 (Int32.ofInt v).toInt64.toInt
      rw [Int64.ofInt_toInt] at this
      exact this
    rw [e3] at hn2
    refine ⟨0, A', _, K', T', h, fun i j hi => ?_, n2, hn2⟩
    rw [zu_ap, if_neg (fun q => hi q.1)]
  · subst he
    exact ⟨_, A', Y, K', T', h, fun _ _ _ => rfl, pw_thr (pc := 4) (idx := 23) (mj := 156) (d := 1000) (mi := 176) (hpc := 12) (k := 1) ⟨12, _, _, _, _, rfl, rfl, rfl, rfl, rfl⟩ rfl rfl rfl ⟨n, hn⟩ rfl rfl⟩
set_option maxRecDepth 10000 in
theorem w_177 {sz : Int} {A B Y : zF} {K : Nat} {T : zT} {x : Int} {y : Int} (hI : XI 0 sz A K T) (p1 : -2147483648 ≤ x ∧ x ≤ 2147483647) (p2 : -2147483648 ≤ y ∧ y ≤ 2147483647) : ∃ (k : Int32) (A' Y' : zF) (K' : Nat) (T' : zT), XI 0 sz A' K' T' ∧ (∀ i j, i ≠ 74 → Y' i j = Y i j) ∧ ∃ n, ∀ m, n ≤ m → pw_run pm_swA m 1000 177 [.ref 0, .int (Int32.ofInt x), .int (Int32.ofInt y), .ref 74] (zc (A, B, Y, K, T)) = some (k, zc (A', B, Y', K', T')) := by
  obtain ⟨r, hr, n, hn⟩ := pyl_run (as := [.inr (.inr 0), .inl x, .inl y]) (R := fun r => (∃ (v : Int) (A' : zF) (K' : Nat) (T' : zT), XI 0 sz A' K' T' ∧ r = .inl (some (.int (Int32.ofInt v)), zc (A', B, Y, K', T'))) ∨ ∃ (e : Nat) (A' : zF) (K' : Nat) (T' : zT), (e = 0 ∨ e = 1) ∧ XI 0 sz A' K' T' ∧ r = .inr (e, zc (A', B, Y, K', T'))) (y_157 (d := 1000) (by omega) hI p1 p2 (fun v A' K' T' h => Or.inl ⟨v, A', K', T', h, rfl⟩) (fun e A' K' T' he h => Or.inr ⟨e, A', K', T', he, h, rfl⟩))
  rcases hr with ⟨v, A', K', T', h, rfl⟩ | ⟨e, A', K', T', he, h, rfl⟩
  · obtain ⟨n2, hn2⟩ := pw_val (k := 0) (as := [.ref 0, .int (Int32.ofInt x), .int (Int32.ofInt y), .ref 74]) (L := lv_args 0 [.ref 0, .int (Int32.ofInt x), .int (Int32.ofInt y), .ref 74]) (S1 := [.int 0, .ref 74]) (v := some (.int (Int32.ofInt v))) (h := zc (A, B, Y, K, T)) (h1 := zc (A, B, Y, K, T)) (h2 := zc (A', B, Y, K', T')) (h3 := pm_setL (zc (A', B, Y, K', T')) 74 0 (Int32.ofInt v).toInt64) (pc := 5) (idx := 26) (mj := 157) (d := 1000) (mi := 177) ⟨12, _, _, _, _, rfl, rfl, rfl, rfl, rfl⟩ rfl rfl rfl ⟨n, hn⟩ ⟨12, 22, _, _, _, rfl, rfl, rfl, rfl⟩
    have e3 : pm_setL (zc (A', B, Y, K', T')) 74 0 (Int32.ofInt v).toInt64 = zc (A', B, zu Y 74 0 (Int32.ofInt v).toInt64.toInt, K', T') := by
      have := zc_L (A', B, Y, K', T') 74 0 (Int32.ofInt v).toInt64.toInt
      rw [Int64.ofInt_toInt] at this
      exact this
    rw [e3] at hn2
    refine ⟨0, A', _, K', T', h, fun i j hi => ?_, n2, hn2⟩
    rw [zu_ap, if_neg (fun q => hi q.1)]
  · rcases he with rfl | rfl
    · exact ⟨_, A', Y, K', T', h, fun _ _ _ => rfl, pw_thr (pc := 5) (idx := 26) (mj := 157) (d := 1000) (mi := 177) (hpc := 13) (k := 1) ⟨12, _, _, _, _, rfl, rfl, rfl, rfl, rfl⟩ rfl rfl rfl ⟨n, hn⟩ rfl rfl⟩
    · exact ⟨_, A', Y, K', T', h, fun _ _ _ => rfl, pw_thr (pc := 5) (idx := 26) (mj := 157) (d := 1000) (mi := 177) (hpc := 17) (k := 2) ⟨12, _, _, _, _, rfl, rfl, rfl, rfl, rfl⟩ rfl rfl rfl ⟨n, hn⟩ rfl rfl⟩
set_option maxRecDepth 10000 in
theorem w_178 {sz : Int} {A B Y : zF} {K : Nat} {T : zT} {x : Int} (hI : XI 0 sz A K T) (p1 : -2147483648 ≤ x ∧ x ≤ 2147483647) : ∃ (k : Int32) (A' Y' : zF) (K' : Nat) (T' : zT), XI 0 sz A' K' T' ∧ (∀ i j, i ≠ 74 → Y' i j = Y i j) ∧ ∃ n, ∀ m, n ≤ m → pw_run pm_swA m 1000 178 [.ref 0, .int (Int32.ofInt x), .ref 74] (zc (A, B, Y, K, T)) = some (k, zc (A', B, Y', K', T')) := by
  obtain ⟨r, hr, n, hn⟩ := pyl_run (as := [.inr (.inr 0), .inl x]) (R := fun r => (∃ (v : Int) (A' : zF) (K' : Nat) (T' : zT), XI 0 sz A' K' T' ∧ r = .inl (some (.int (Int32.ofInt v)), zc (A', B, Y, K', T'))) ∨ ∃ (e : Nat) (A' : zF) (K' : Nat) (T' : zT), (e = 0 ∨ e = 1) ∧ XI 0 sz A' K' T' ∧ r = .inr (e, zc (A', B, Y, K', T'))) (y_158 (d := 1000) (by omega) hI p1 (fun v A' K' T' h => Or.inl ⟨v, A', K', T', h, rfl⟩) (fun e A' K' T' he h => Or.inr ⟨e, A', K', T', he, h, rfl⟩))
  rcases hr with ⟨v, A', K', T', h, rfl⟩ | ⟨e, A', K', T', he, h, rfl⟩
  · obtain ⟨n2, hn2⟩ := pw_val (k := 0) (as := [.ref 0, .int (Int32.ofInt x), .ref 74]) (L := lv_args 0 [.ref 0, .int (Int32.ofInt x), .ref 74]) (S1 := [.int 0, .ref 74]) (v := some (.int (Int32.ofInt v))) (h := zc (A, B, Y, K, T)) (h1 := zc (A, B, Y, K, T)) (h2 := zc (A', B, Y, K', T')) (h3 := pm_setL (zc (A', B, Y, K', T')) 74 0 (Int32.ofInt v).toInt64) (pc := 4) (idx := 30) (mj := 158) (d := 1000) (mi := 178) ⟨12, _, _, _, _, rfl, rfl, rfl, rfl, rfl⟩ rfl rfl rfl ⟨n, hn⟩ ⟨12, 19, _, _, _, rfl, rfl, rfl, rfl⟩
    have e3 : pm_setL (zc (A', B, Y, K', T')) 74 0 (Int32.ofInt v).toInt64 = zc (A', B, zu Y 74 0 (Int32.ofInt v).toInt64.toInt, K', T') := by
      have := zc_L (A', B, Y, K', T') 74 0 (Int32.ofInt v).toInt64.toInt
      rw [Int64.ofInt_toInt] at this
      exact this
    rw [e3] at hn2
    refine ⟨0, A', _, K', T', h, fun i j hi => ?_, n2, hn2⟩
    rw [zu_ap, if_neg (fun q => hi q.1)]
  · rcases he with rfl | rfl
    · exact ⟨_, A', Y, K', T', h, fun _ _ _ => rfl, pw_thr (pc := 4) (idx := 30) (mj := 158) (d := 1000) (mi := 178) (hpc := 12) (k := 1) ⟨12, _, _, _, _, rfl, rfl, rfl, rfl, rfl⟩ rfl rfl rfl ⟨n, hn⟩ rfl rfl⟩
    · exact ⟨_, A', Y, K', T', h, fun _ _ _ => rfl, pw_thr (pc := 4) (idx := 30) (mj := 158) (d := 1000) (mi := 178) (hpc := 15) (k := 2) ⟨12, _, _, _, _, rfl, rfl, rfl, rfl, rfl⟩ rfl rfl rfl ⟨n, hn⟩ rfl rfl⟩
set_option maxRecDepth 10000 in
theorem w_179 {sz : Int} {A B Y : zF} {K : Nat} {T : zT} {x : Int} {y : Int} {w : Int} (hI : XI 0 sz A K T) (p1 : -2147483648 ≤ x ∧ x ≤ 2147483647) (p2 : y = 0 ∨ y = 1) (p3 : -2147483648 ≤ w ∧ w ≤ 2147483647) : ∃ (k : Int32) (A' Y' : zF) (K' : Nat) (T' : zT), XI 0 sz A' K' T' ∧ (∀ i j, i ≠ 74 → Y' i j = Y i j) ∧ ∃ n, ∀ m, n ≤ m → pw_run pm_swA m 1000 179 [.ref 0, .int (Int32.ofInt x), .int (Int32.ofInt y), .int (Int32.ofInt w), .ref 74] (zc (A, B, Y, K, T)) = some (k, zc (A', B, Y', K', T')) := by
  obtain ⟨r, hr, n, hn⟩ := pyl_run (as := [.inr (.inr 0), .inl x, .inl y, .inl w]) (R := fun r => (∃ (v : Int) (A' : zF) (K' : Nat) (T' : zT), XI 0 sz A' K' T' ∧ r = .inl (some (.int (Int32.ofInt v)), zc (A', B, Y, K', T'))) ∨ ∃ (e : Nat) (A' : zF) (K' : Nat) (T' : zT), (e = 1) ∧ XI 0 sz A' K' T' ∧ r = .inr (e, zc (A', B, Y, K', T'))) (y_159 (d := 1000) (by omega) hI p1 p2 p3 (fun v A' K' T' h => Or.inl ⟨v, A', K', T', h, rfl⟩) (fun e A' K' T' he h => Or.inr ⟨e, A', K', T', he, h, rfl⟩))
  rcases hr with ⟨v, A', K', T', h, rfl⟩ | ⟨e, A', K', T', he, h, rfl⟩
  · obtain ⟨n2, hn2⟩ := pw_val (k := 0) (as := [.ref 0, .int (Int32.ofInt x), .int (Int32.ofInt y), .int (Int32.ofInt w), .ref 74]) (L := lv_args 0 [.ref 0, .int (Int32.ofInt x), .int (Int32.ofInt y), .int (Int32.ofInt w), .ref 74]) (S1 := [.int 0, .ref 74]) (v := some (.int (Int32.ofInt v))) (h := zc (A, B, Y, K, T)) (h1 := zc (A, B, Y, K, T)) (h2 := zc (A', B, Y, K', T')) (h3 := pm_setL (zc (A', B, Y, K', T')) 74 0 (Int32.ofInt v).toInt64) (pc := 7) (idx := 33) (mj := 159) (d := 1000) (mi := 179) ⟨12, _, _, _, _, rfl, rfl, rfl, rfl, rfl⟩ rfl rfl rfl ⟨n, hn⟩ ⟨12, 20, _, _, _, rfl, rfl, rfl, rfl⟩
    have e3 : pm_setL (zc (A', B, Y, K', T')) 74 0 (Int32.ofInt v).toInt64 = zc (A', B, zu Y 74 0 (Int32.ofInt v).toInt64.toInt, K', T') := by
      have := zc_L (A', B, Y, K', T') 74 0 (Int32.ofInt v).toInt64.toInt
      rw [Int64.ofInt_toInt] at this
      exact this
    rw [e3] at hn2
    refine ⟨0, A', _, K', T', h, fun i j hi => ?_, n2, hn2⟩
    rw [zu_ap, if_neg (fun q => hi q.1)]
  · subst he
    exact ⟨_, A', Y, K', T', h, fun _ _ _ => rfl, pw_thr (pc := 7) (idx := 33) (mj := 159) (d := 1000) (mi := 179) (hpc := 15) (k := 1) ⟨12, _, _, _, _, rfl, rfl, rfl, rfl, rfl⟩ rfl rfl rfl ⟨n, hn⟩ rfl rfl⟩
