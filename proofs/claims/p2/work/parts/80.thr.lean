/-! The class: the calls that throw -/
/-- a method that may throw, from a place on -/
def pyl (mj d : Nat) (R : ((Option Value × pm_H) ⊕ (Nat × pm_H)) → Prop) (pc : Nat) (M : zM) (S : List zv) (h : zh) : Prop := ∀ L, zlr M L → pu (pt_stop mj) d mj pc L (S.map zV) (zc h) (fun pc' _ S' h' => ∃ r, pt_end mj pc' S' h' = some r ∧ R r)
theorem zS_pu (d mj : Nat) (Q : Nat → pm_L → List Value → pm_H → Prop) (pc : Nat) : zS d mj true pc (fun pc L S h => pu (pt_stop mj) d mj pc L S h Q) (fun _ _ => False) := by
  refine ⟨fun L S h pc' L' S' h' ok hs q => pu_st (ok rfl) hs q, fun L S h v e _ _ => absurd e (by decide), fun L S h mj as S' ok hs hp hd q => ?_, fun L S h i h' S' ok hs hf hc hd q => pu_cpy (ok rfl) hs hf hc hd q⟩
  cases d with
  | zero => exact absurd hd (by omega)
  | succ d => exact pu_call (ok rfl) hs hp q
section PYL
variable {mj d pc : Nat} {R : ((Option Value × pm_H) ⊕ (Nat × pm_H)) → Prop} {M : zM} {S : List zv} {h : zh}
theorem pyl_of (n : Nat) (st : List (Nat × List Nat)) (hv : List Nat) (H : wz st hv d mj true (fun _ _ => False) (fun pc M S h => pyl mj d R pc M S h) n pc M S h) : pyl mj d R pc M S h := fun L hL =>
  wz_ok (fun pc => zS_pu d mj _ pc) (fun _ _ _ _ q => q) (fun _ _ q => q) n pc M S h H L hL
theorem pyl_end {r : (Option Value × pm_H) ⊕ (Nat × pm_H)} (hst : pt_stop mj pc = true) (he : pt_end mj pc (S.map zV) (zc h) = some r) (q : R r) : pyl mj d R pc M S h := fun L hL => pu_stop hst ⟨r, he, q⟩
theorem pyl_run {as : List zv} (q : pyl mj d R 0 (zarg (pm_mx mj) as) [] h) : ∃ r, R r ∧ ∃ n, ∀ m, n ≤ m → pt_run pm_swA m d mj (as.map zV) (zc h) = some r := by
  obtain ⟨n, a1, a2, a3, a4, e, r, he, hr⟩ := q _ (zarg_ok _ _)
  replace e : pp_run pm_swA (pt_stop mj) n d mj 0 (lv_args 0 (as.map zV)) [] (zc h) = some (a1, a2, a3, a4) := e
  refine ⟨r, hr, n, fun m hm => ?_⟩
  unfold pt_run
  rw [pu_mono _ _ n m _ _ _ _ _ _ _ e hm]
  exact he
end PYL
theorem pyl_char {x : Int} {h : pm_H} (hx : 0 ≤ x ∧ x < 65536) : pt_end 159 48 [.int (Int32.ofInt x)] h = some (.inl (some (.int (Int32.ofInt x)), h)) := by
  have e : vp_nar .char (Int32.ofInt x) = Int32.ofInt x := by
    have e0 : Int32.ofInt x = nI x.toNat := by
      show _ = Int32.ofNat x.toNat
      rw [← Int32.ofInt_eq_ofNat, Int.toNat_of_nonneg hx.1]
    rw [e0]
    exact fd_vc (by omega)
  show (match (if vp_nar .char (Int32.ofInt x) = Int32.ofInt x then some (some (Value.int (Int32.ofInt x))) else none) with
    | some v => some (Sum.inl (v, h))
    | none => none) = _
  rw [if_pos e]

set_option maxHeartbeats 400000 in
theorem y_154 {sz : Int} {d : Nat} {A B Y : zF} {K : Nat} {T : zT} {x : Int} {y : Int} {w : Int} {R : ((Option Value × pm_H) ⊕ (Nat × pm_H)) → Prop} (hd : 10 ≤ d) (hI : XI 0 sz A K T) (p1 : -2147483648 ≤ x ∧ x ≤ 2147483647) (p2 : -2147483648 ≤ y ∧ y ≤ 2147483647) (p3 : -2147483648 ≤ w ∧ w ≤ 2147483647) (qr : ∀ (A' : zF) (K' : Nat) (T' : zT), XI 0 sz A' K' T' → R (.inl (none, zc (A', B, Y, K', T')))) (qx : ∀ (e : Nat) (A' : zF) (K' : Nat) (T' : zT), (e = 0 ∨ e = 1) → XI 0 sz A' K' T' → R (.inr (e, zc (A', B, Y, K', T')))) : pyl 154 d R 0 [some (.inr (.inr (0 : Nat))), some (.inl x), some (.inl y), some (.inl w)] [] (A, B, Y, K, T) := by
  refine pyl_of 18 [] [] ?_
  show ((-2147483648 ≤ (A 2 15) ∧ (A 2 15) < 2147483648) ∧ ((A 2 15) ≠ (0 : Int) → (0 < d ∧ pzI (d - 1) 78 [.inr (.inr (2 : Nat)), .inl x, .inl y] (A, B, Y, K, T) (fun nv1 Av1 Bv1 Yv1 Kv1 Tv1 => ((-2147483648 ≤ nv1 ∧ nv1 < 2147483648) ∧ (nv1 ≠ (0 : Int) → (0 < d ∧ pzI (d - 1) 71 [.inl x, .inl y] (Av1, Bv1, Yv1, Kv1, Tv1) (fun nv2 Av2 Bv2 Yv2 Kv2 Tv2 => ((0 ≤ nv2 ∧ nv2 < (2560 : Int)) ∧ pyl 154 d R 49 [some (.inr (.inr (0 : Nat))), some (.inl x), some (.inl y), some (.inl w)] [] ((zu Av2 29 (nv2).toNat w), Bv2, Yv2, Kv2, Tv2))))) ∧ (nv1 = (0 : Int) → pyl 154 d R 30 [some (.inr (.inr (0 : Nat))), some (.inl x), some (.inl y), some (.inl w)] [] (Av1, Bv1, Yv1, Kv1, Tv1)))))) ∧ ((A 2 15) = (0 : Int) → pyl 154 d R 10 [some (.inr (.inr (0 : Nat))), some (.inl x), some (.inl y), some (.inl w)] [] (A, B, Y, K, T)))
  have f1 := XI_r_2_15 hI
  refine ⟨by omega, fun z2 => ?_, fun z2 => ?_⟩
  · skip
    refine ⟨by omega, c_78_2 (by omega) hI (show -2147483648 ≤ x ∧ x ≤ 2147483647 from by omega) (show -2147483648 ≤ y ∧ y ≤ 2147483647 from by omega) (fun nv1 xp1_0 => ?_)⟩
    replace xp1_0 : (nv1 = 1 ∧ 0 ≤ x ∧ x < 40 ∧ 0 ≤ y ∧ y < 64) ∨ nv1 = 0 := xp1_0
    refine ⟨by omega, fun z3 => ?_, fun z3 => ?_⟩
    · skip
      refine ⟨by omega, c_71 (by omega)  (fun nv2 xp2_0 => ?_)⟩
      replace xp2_0 : nv2 = x * 64 + y := xp2_0
      refine ⟨by omega, ?_⟩
      have hI4 := XI_w_29 (j := (nv2).toNat) (v := w) hI (by omega) (by omega)
      exact pyl_end (r := .inl (none, zc ((zu A 29 (nv2).toNat w), B, Y, K, T))) rfl rfl (qr _ _ _ hI4)
    · skip
      exact pyl_end (r := .inr (1, zc (A, B, Y, K, T))) rfl rfl (qx 1 _ _ _ (by omega) hI)
  · skip
    exact pyl_end (r := .inr (0, zc (A, B, Y, K, T))) rfl rfl (qx 0 _ _ _ (by omega) hI)

set_option maxHeartbeats 400000 in
theorem y_155 {sz : Int} {d : Nat} {A B Y : zF} {K : Nat} {T : zT} {x : Int} {R : ((Option Value × pm_H) ⊕ (Nat × pm_H)) → Prop} (hd : 40 ≤ d) (hI : XI 0 sz A K T) (p1 : -2147483648 ≤ x ∧ x ≤ 2147483647) (qr : ∀ (v : Int) (A' : zF) (K' : Nat) (T' : zT), XI 0 sz A' K' T' → R (.inl (some (.int (Int32.ofInt v)), zc (A', B, Y, K', T')))) (qx : ∀ (e : Nat) (A' : zF) (K' : Nat) (T' : zT), (e = 0 ∨ e = 2) → XI 0 sz A' K' T' → R (.inr (e, zc (A', B, Y, K', T')))) : pyl 155 d R 0 [some (.inr (.inr (0 : Nat))), some (.inl x)] [] (A, B, Y, K, T) := by
  refine pyl_of 37 [] [] ?_
  show ((-2147483648 ≤ (A 2 15) ∧ (A 2 15) < 2147483648) ∧ ((A 2 15) ≠ (0 : Int) → ((-2147483648 ≤ x ∧ x < 2147483648) ∧ (x < (0 : Int) → pyl 155 d R 29 [some (.inr (.inr (0 : Nat))), some (.inl x)] [] (A, B, Y, K, T)) ∧ ((0 : Int) ≤ x → ((-2147483648 ≤ x ∧ x < 2147483648) ∧ (-2147483648 ≤ (20000 : Int) ∧ (20000 : Int) < 2147483648) ∧ (x ≤ (20000 : Int) → ((0 ≤ (0 : Int) ∧ 0 ≤ (0 : Int) ∧ 0 ≤ (2560 : Int)) ∧ ((0 : Int) + (2560 : Int) ≤ (2560 : Int) ∧ (0 : Int) + (2560 : Int) ≤ (2560 : Int)) ∧ True ∧ 0 < d ∧ (((1 : Int) = 0 ∨ (1 : Int) = 1) ∧ (0 < d ∧ pzV (d - 1) 132 [.inr (.inr (31 : Nat)), .inr (.inr (30 : Nat))] ((zu (zu (zua A 30 (fun j => if ((0 : Int)).toNat ≤ j ∧ j < ((0 : Int)).toNat + ((2560 : Int)).toNat then (A 29 (((0 : Int)).toNat + (j - ((0 : Int)).toNat))) else (A 30 j))) 0 8 x) 0 9 (1 : Int)), B, Y, K, T) (fun Av1 Bv1 Yv1 Kv1 Tv1 => (0 < d ∧ pzV (d - 1) 135 [.inr (.inr (31 : Nat)), .inl (Av1 0 8)] (Av1, Bv1, Yv1, Kv1, Tv1) (fun Av2 Bv2 Yv2 Kv2 Tv2 => pyl 155 d R 92 [some (.inr (.inr (0 : Nat))), some (.inl x)] [.inl (Av2 31 5)] (Av2, Bv2, Yv2, Kv2, Tv2)))))))) ∧ ((20000 : Int) < x → pyl 155 d R 29 [some (.inr (.inr (0 : Nat))), some (.inl x)] [] (A, B, Y, K, T)))))) ∧ ((A 2 15) = (0 : Int) → pyl 155 d R 10 [some (.inr (.inr (0 : Nat))), some (.inl x)] [] (A, B, Y, K, T)))
  have f1 := XI_r_2_15 hI
  refine ⟨by omega, fun z2 => ?_, fun z2 => ?_⟩
  · skip
    refine ⟨by omega, fun z3 => ?_, fun z3 => ?_⟩
    · skip
      exact pyl_end (r := .inr (2, zc (A, B, Y, K, T))) rfl rfl (qx 2 _ _ _ (by omega) hI)
    · skip
      refine ⟨by omega, by omega, fun z4 => ?_, fun z4 => ?_⟩
      · skip
        refine ⟨by omega, by omega, trivial, by omega, ?_⟩
        have hI5 := XI_a_30 (g := (fun j => if ((0 : Int)).toNat ≤ j ∧ j < ((0 : Int)).toNat + ((2560 : Int)).toNat then (A 29 (((0 : Int)).toNat + (j - ((0 : Int)).toNat))) else (A 30 j))) hI (fun j => by
          show -2147483648 ≤ (if ((0 : Int)).toNat ≤ j ∧ j < ((0 : Int)).toNat + ((2560 : Int)).toNat then (A 29 (((0 : Int)).toNat + (j - ((0 : Int)).toNat))) else (A 30 j)) ∧ (if ((0 : Int)).toNat ≤ j ∧ j < ((0 : Int)).toNat + ((2560 : Int)).toNat then (A 29 (((0 : Int)).toNat + (j - ((0 : Int)).toNat))) else (A 30 j)) ≤ 2147483647
          have f1 := XI_r_29 hI (((0 : Int)).toNat + (j - ((0 : Int)).toNat))
          have f2 := XI_r_30 hI j
          split <;> omega)
        have hI6 := XI_w_0_8 (v := x) hI5 (by omega) (by omega)
        refine ⟨by omega, ?_⟩
        have hI7 := XI_w_0_9 (v := (1 : Int)) hI6 (by omega) (by omega)
        refine ⟨by omega, c_132_31_30 (by omega) hI7  (fun Av1 Kv1 Tv1 xI1 => ?_)⟩
        have f8 := XI_r_0_8 xI1
        refine ⟨by omega, c_135_31 (by omega) xI1 (show 0 ≤ (Av1 0 8) ∧ (Av1 0 8) ≤ 20000 from by omega) (fun Av2 Kv2 Tv2 xI2 => ?_)⟩
        have f9 := XI_r_31_5 xI2
        exact pyl_end (r := .inl (some (.int (Int32.ofInt (Av2 31 5))), zc (Av2, B, Y, Kv2, Tv2))) rfl rfl (qr _ _ _ _ xI2)
      · skip
        exact pyl_end (r := .inr (2, zc (A, B, Y, K, T))) rfl rfl (qx 2 _ _ _ (by omega) hI)
  · skip
    exact pyl_end (r := .inr (0, zc (A, B, Y, K, T))) rfl rfl (qx 0 _ _ _ (by omega) hI)

set_option maxHeartbeats 400000 in
theorem y_156 {sz : Int} {d : Nat} {A B Y : zF} {K : Nat} {T : zT} {x : Int} {R : ((Option Value × pm_H) ⊕ (Nat × pm_H)) → Prop} (hd : 40 ≤ d) (hI : XI 0 sz A K T) (p1 : -2147483648 ≤ x ∧ x ≤ 2147483647) (qr : ∀ (v : Int) (A' : zF) (K' : Nat) (T' : zT), XI 0 sz A' K' T' → R (.inl (some (.int (Int32.ofInt v)), zc (A', B, Y, K', T')))) (qx : ∀ (e : Nat) (A' : zF) (K' : Nat) (T' : zT), (e = 0) → XI 0 sz A' K' T' → R (.inr (e, zc (A', B, Y, K', T')))) : pyl 156 d R 0 [some (.inr (.inr (0 : Nat))), some (.inl x)] [] (A, B, Y, K, T) := by
  refine pyl_of 23 [] [] ?_
  show ((-2147483648 ≤ (A 0 9) ∧ (A 0 9) < 2147483648) ∧ ((A 0 9) ≠ (0 : Int) → (0 < d ∧ pzV (d - 1) 132 [.inr (.inr (35 : Nat)), .inr (.inr (30 : Nat))] (A, B, Y, K, T) (fun Av1 Bv1 Yv1 Kv1 Tv1 => (0 < d ∧ pzV (d - 1) 133 [.inr (.inr (35 : Nat)), .inl x] (Av1, Bv1, Yv1, Kv1, Tv1) (fun Av2 Bv2 Yv2 Kv2 Tv2 => (0 < d ∧ pzV (d - 1) 135 [.inr (.inr (35 : Nat)), .inl (Av2 0 8)] (Av2, Bv2, Yv2, Kv2, Tv2) (fun Av3 Bv3 Yv3 Kv3 Tv3 => (0 < d ∧ pzI (d - 1) 136 [.inr (.inr (31 : Nat)), .inr (.inr (35 : Nat))] (Av3, Bv3, Yv3, Kv3, Tv3) (fun nv4 Av4 Bv4 Yv4 Kv4 Tv4 => pyl 156 d R 56 [some (.inr (.inr (0 : Nat))), some (.inl x)] [.inl nv4] (Av4, Bv4, Yv4, Kv4, Tv4)))))))))) ∧ ((A 0 9) = (0 : Int) → pyl 156 d R 7 [some (.inr (.inr (0 : Nat))), some (.inl x)] [] (A, B, Y, K, T)))
  have f1 := XI_r_0_9 hI
  refine ⟨by omega, fun z2 => ?_, fun z2 => ?_⟩
  · skip
    refine ⟨by omega, c_132_35_30 (by omega) hI  (fun Av1 Kv1 Tv1 xI1 => ?_)⟩
    refine ⟨by omega, c_133_35 (by omega) xI1  (fun Av2 Kv2 Tv2 xI2 => ?_)⟩
    have f3 := XI_r_0_8 xI2
    refine ⟨by omega, c_135_35 (by omega) xI2 (show 0 ≤ (Av2 0 8) ∧ (Av2 0 8) ≤ 20000 from by omega) (fun Av3 Kv3 Tv3 xI3 => ?_)⟩
    refine ⟨by omega, c_136_31_35 (by omega) xI3  (fun nv4 xp4_0 => ?_)⟩
    replace xp4_0 : -2147483648 ≤ nv4 ∧ nv4 ≤ 2147483647 := xp4_0
    exact pyl_end (r := .inl (some (.int (Int32.ofInt nv4)), zc (Av3, B, Y, Kv3, Tv3))) rfl rfl (qr _ _ _ _ xI3)
  · skip
    exact pyl_end (r := .inr (0, zc (A, B, Y, K, T))) rfl rfl (qx 0 _ _ _ (by omega) hI)

set_option maxHeartbeats 400000 in
theorem y_157 {sz : Int} {d : Nat} {A B Y : zF} {K : Nat} {T : zT} {x : Int} {y : Int} {R : ((Option Value × pm_H) ⊕ (Nat × pm_H)) → Prop} (hd : 10 ≤ d) (hI : XI 0 sz A K T) (p1 : -2147483648 ≤ x ∧ x ≤ 2147483647) (p2 : -2147483648 ≤ y ∧ y ≤ 2147483647) (qr : ∀ (v : Int) (A' : zF) (K' : Nat) (T' : zT), XI 0 sz A' K' T' → R (.inl (some (.int (Int32.ofInt v)), zc (A', B, Y, K', T')))) (qx : ∀ (e : Nat) (A' : zF) (K' : Nat) (T' : zT), (e = 0 ∨ e = 1) → XI 0 sz A' K' T' → R (.inr (e, zc (A', B, Y, K', T')))) : pyl 157 d R 0 [some (.inr (.inr (0 : Nat))), some (.inl x), some (.inl y)] [] (A, B, Y, K, T) := by
  refine pyl_of 17 [] [] ?_
  show ((-2147483648 ≤ (A 0 9) ∧ (A 0 9) < 2147483648) ∧ ((A 0 9) ≠ (0 : Int) → (0 < d ∧ pzI (d - 1) 78 [.inr (.inr (2 : Nat)), .inl x, .inl y] (A, B, Y, K, T) (fun nv1 Av1 Bv1 Yv1 Kv1 Tv1 => ((-2147483648 ≤ nv1 ∧ nv1 < 2147483648) ∧ (nv1 ≠ (0 : Int) → (0 < d ∧ pzI (d - 1) 71 [.inl x, .inl y] (Av1, Bv1, Yv1, Kv1, Tv1) (fun nv2 Av2 Bv2 Yv2 Kv2 Tv2 => ((0 ≤ nv2 ∧ nv2 < (2632 : Int)) ∧ pyl 157 d R 48 [some (.inr (.inr (0 : Nat))), some (.inl x), some (.inl y)] [.inl (Av2 32 (nv2).toNat)] (Av2, Bv2, Yv2, Kv2, Tv2))))) ∧ (nv1 = (0 : Int) → pyl 157 d R 27 [some (.inr (.inr (0 : Nat))), some (.inl x), some (.inl y)] [] (Av1, Bv1, Yv1, Kv1, Tv1)))))) ∧ ((A 0 9) = (0 : Int) → pyl 157 d R 7 [some (.inr (.inr (0 : Nat))), some (.inl x), some (.inl y)] [] (A, B, Y, K, T)))
  have f1 := XI_r_0_9 hI
  refine ⟨by omega, fun z2 => ?_, fun z2 => ?_⟩
  · skip
    refine ⟨by omega, c_78_2 (by omega) hI (show -2147483648 ≤ x ∧ x ≤ 2147483647 from by omega) (show -2147483648 ≤ y ∧ y ≤ 2147483647 from by omega) (fun nv1 xp1_0 => ?_)⟩
    replace xp1_0 : (nv1 = 1 ∧ 0 ≤ x ∧ x < 40 ∧ 0 ≤ y ∧ y < 64) ∨ nv1 = 0 := xp1_0
    refine ⟨by omega, fun z3 => ?_, fun z3 => ?_⟩
    · skip
      refine ⟨by omega, c_71 (by omega)  (fun nv2 xp2_0 => ?_)⟩
      replace xp2_0 : nv2 = x * 64 + y := xp2_0
      refine ⟨by omega, ?_⟩
      have f4 := XI_r_32 hI ((nv2).toNat)
      exact pyl_end (r := .inl (some (.int (Int32.ofInt (A 32 (nv2).toNat))), zc (A, B, Y, K, T))) rfl rfl (qr _ _ _ _ hI)
    · skip
      exact pyl_end (r := .inr (1, zc (A, B, Y, K, T))) rfl rfl (qx 1 _ _ _ (by omega) hI)
  · skip
    exact pyl_end (r := .inr (0, zc (A, B, Y, K, T))) rfl rfl (qx 0 _ _ _ (by omega) hI)

set_option maxHeartbeats 400000 in
theorem y_158 {sz : Int} {d : Nat} {A B Y : zF} {K : Nat} {T : zT} {x : Int} {R : ((Option Value × pm_H) ⊕ (Nat × pm_H)) → Prop} (hd : 10 ≤ d) (hI : XI 0 sz A K T) (p1 : -2147483648 ≤ x ∧ x ≤ 2147483647) (qr : ∀ (v : Int) (A' : zF) (K' : Nat) (T' : zT), XI 0 sz A' K' T' → R (.inl (some (.int (Int32.ofInt v)), zc (A', B, Y, K', T')))) (qx : ∀ (e : Nat) (A' : zF) (K' : Nat) (T' : zT), (e = 0 ∨ e = 1) → XI 0 sz A' K' T' → R (.inr (e, zc (A', B, Y, K', T')))) : pyl 158 d R 0 [some (.inr (.inr (0 : Nat))), some (.inl x)] [] (A, B, Y, K, T) := by
  refine pyl_of 16 [] [] ?_
  show ((-2147483648 ≤ (A 0 9) ∧ (A 0 9) < 2147483648) ∧ ((A 0 9) ≠ (0 : Int) → ((-2147483648 ≤ x ∧ x < 2147483648) ∧ (x < (0 : Int) → pyl 158 d R 30 [some (.inr (.inr (0 : Nat))), some (.inl x)] [] (A, B, Y, K, T)) ∧ ((0 : Int) ≤ x → ((-2147483648 ≤ x ∧ x < 2147483648) ∧ (-2147483648 ≤ (A 31 3) ∧ (A 31 3) < 2147483648) ∧ (x < (A 31 3) → ((0 ≤ x ∧ x < (4000 : Int)) ∧ pyl 158 d R 47 [some (.inr (.inr (0 : Nat))), some (.inl x)] [.inl (A 33 (x).toNat)] (A, B, Y, K, T))) ∧ ((A 31 3) ≤ x → pyl 158 d R 30 [some (.inr (.inr (0 : Nat))), some (.inl x)] [] (A, B, Y, K, T)))))) ∧ ((A 0 9) = (0 : Int) → pyl 158 d R 7 [some (.inr (.inr (0 : Nat))), some (.inl x)] [] (A, B, Y, K, T)))
  have f1 := XI_r_0_9 hI
  refine ⟨by omega, fun z2 => ?_, fun z2 => ?_⟩
  · skip
    refine ⟨by omega, fun z3 => ?_, fun z3 => ?_⟩
    · skip
      exact pyl_end (r := .inr (1, zc (A, B, Y, K, T))) rfl rfl (qx 1 _ _ _ (by omega) hI)
    · skip
      have f4 := XI_r_31_3 hI
      refine ⟨by omega, by omega, fun z5 => ?_, fun z5 => ?_⟩
      · skip
        refine ⟨by omega, ?_⟩
        have f6 := XI_r_33 hI ((x).toNat)
        exact pyl_end (r := .inl (some (.int (Int32.ofInt (A 33 (x).toNat))), zc (A, B, Y, K, T))) rfl rfl (qr _ _ _ _ hI)
      · skip
        exact pyl_end (r := .inr (1, zc (A, B, Y, K, T))) rfl rfl (qx 1 _ _ _ (by omega) hI)
  · skip
    exact pyl_end (r := .inr (0, zc (A, B, Y, K, T))) rfl rfl (qx 0 _ _ _ (by omega) hI)

set_option maxHeartbeats 400000 in
theorem y_159 {sz : Int} {d : Nat} {A B Y : zF} {K : Nat} {T : zT} {x : Int} {y : Int} {w : Int} {R : ((Option Value × pm_H) ⊕ (Nat × pm_H)) → Prop} (hd : 10 ≤ d) (hI : XI 0 sz A K T) (p1 : -2147483648 ≤ x ∧ x ≤ 2147483647) (p2 : y = 0 ∨ y = 1) (p3 : -2147483648 ≤ w ∧ w ≤ 2147483647) (qr : ∀ (v : Int) (A' : zF) (K' : Nat) (T' : zT), XI 0 sz A' K' T' → R (.inl (some (.int (Int32.ofInt v)), zc (A', B, Y, K', T')))) (qx : ∀ (e : Nat) (A' : zF) (K' : Nat) (T' : zT), (e = 1) → XI 0 sz A' K' T' → R (.inr (e, zc (A', B, Y, K', T')))) : pyl 159 d R 0 [some (.inr (.inr (0 : Nat))), some (.inl x), some (.inl y), some (.inl w), none] [] (A, B, Y, K, T) := by
  refine pyl_of 17 [] [] ?_
  show ((-2147483648 ≤ y ∧ y < 2147483648) ∧ (y = (0 : Int) → (0 < d ∧ pzI (d - 1) 69 [.inr (.inr (4 : Nat)), .inl x, .inl w] (A, B, Y, K, T) (fun nv1 Av1 Bv1 Yv1 Kv1 Tv1 => ((-2147483648 ≤ nv1 ∧ nv1 < 2147483648) ∧ (nv1 ≠ (0 : Int) → (0 < d ∧ pzI (d - 1) 70 [.inr (.inr (4 : Nat)), .inl x, .inl w] (Av1, Bv1, Yv1, Kv1, Tv1) (fun nv2 Av2 Bv2 Yv2 Kv2 Tv2 => pyl 159 d R 48 [some (.inr (.inr (0 : Nat))), some (.inl x), some (.inl y), some (.inl w), some (.inr (.inr (4 : Nat)))] [.inl nv2] (Av2, Bv2, Yv2, Kv2, Tv2)))) ∧ (nv1 = (0 : Int) → pyl 159 d R 33 [some (.inr (.inr (0 : Nat))), some (.inl x), some (.inl y), some (.inl w), some (.inr (.inr (4 : Nat)))] [] (Av1, Bv1, Yv1, Kv1, Tv1)))))) ∧ (y ≠ (0 : Int) → (0 < d ∧ pzI (d - 1) 69 [.inr (.inr (10 : Nat)), .inl x, .inl w] (A, B, Y, K, T) (fun nv3 Av3 Bv3 Yv3 Kv3 Tv3 => ((-2147483648 ≤ nv3 ∧ nv3 < 2147483648) ∧ (nv3 ≠ (0 : Int) → (0 < d ∧ pzI (d - 1) 70 [.inr (.inr (10 : Nat)), .inl x, .inl w] (Av3, Bv3, Yv3, Kv3, Tv3) (fun nv4 Av4 Bv4 Yv4 Kv4 Tv4 => pyl 159 d R 48 [some (.inr (.inr (0 : Nat))), some (.inl x), some (.inl y), some (.inl w), some (.inr (.inr (10 : Nat)))] [.inl nv4] (Av4, Bv4, Yv4, Kv4, Tv4)))) ∧ (nv3 = (0 : Int) → pyl 159 d R 33 [some (.inr (.inr (0 : Nat))), some (.inl x), some (.inl y), some (.inl w), some (.inr (.inr (10 : Nat)))] [] (Av3, Bv3, Yv3, Kv3, Tv3)))))))
  refine ⟨by omega, fun z1 => ?_, fun z1 => ?_⟩
  · skip
    refine ⟨by omega, c_69_4 (by omega) hI (show -2147483648 ≤ x ∧ x ≤ 2147483647 from by omega) (show -2147483648 ≤ w ∧ w ≤ 2147483647 from by omega) (fun nv1 xp1_0 => ?_)⟩
    replace xp1_0 : (nv1 = 1 ∧ 0 ≤ x ∧ x < 40 ∧ 0 ≤ w ∧ w < (A 6 (x).toNat)) ∨ nv1 = 0 := xp1_0
    refine ⟨by omega, fun z2 => ?_, fun z2 => ?_⟩
    · skip
      refine ⟨by omega, c_70_4 (by omega) hI (show -2147483648 ≤ x ∧ x ≤ 2147483647 from by omega) (show -2147483648 ≤ w ∧ w ≤ 2147483647 from by omega) (fun nv2 xp2_0 => ?_)⟩
      replace xp2_0 : 0 ≤ nv2 ∧ nv2 < 65536 := xp2_0
      exact pyl_end (r := .inl (some (.int (Int32.ofInt nv2)), zc (A, B, Y, K, T))) rfl (pyl_char (by omega)) (qr _ _ _ _ hI)
    · skip
      exact pyl_end (r := .inr (1, zc (A, B, Y, K, T))) rfl rfl (qx 1 _ _ _ (by omega) hI)
  · skip
    refine ⟨by omega, c_69_10 (by omega) hI (show -2147483648 ≤ x ∧ x ≤ 2147483647 from by omega) (show -2147483648 ≤ w ∧ w ≤ 2147483647 from by omega) (fun nv3 xp3_0 => ?_)⟩
    replace xp3_0 : (nv3 = 1 ∧ 0 ≤ x ∧ x < 6 ∧ 0 ≤ w ∧ w < (A 12 (x).toNat)) ∨ nv3 = 0 := xp3_0
    refine ⟨by omega, fun z3 => ?_, fun z3 => ?_⟩
    · skip
      refine ⟨by omega, c_70_10 (by omega) hI (show -2147483648 ≤ x ∧ x ≤ 2147483647 from by omega) (show -2147483648 ≤ w ∧ w ≤ 2147483647 from by omega) (fun nv4 xp4_0 => ?_)⟩
      replace xp4_0 : 0 ≤ nv4 ∧ nv4 < 65536 := xp4_0
      exact pyl_end (r := .inl (some (.int (Int32.ofInt nv4)), zc (A, B, Y, K, T))) rfl (pyl_char (by omega)) (qr _ _ _ _ hI)
    · skip
      exact pyl_end (r := .inr (1, zc (A, B, Y, K, T))) rfl rfl (qx 1 _ _ _ (by omega) hI)

