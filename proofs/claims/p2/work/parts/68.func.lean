/-! The model's parser: functions, and the program's head -/
section FUN
variable {d : Nat} {A B0 B Y : zF} {K : Nat} {T : zT} {st vs : List zE} {cur op fr fc N F tp ow tk sc tm m on tn : Int} {E ht rg bk : Nat → Int} {Q : zF → zF → zF → Nat → zT → Prop}
theorem WT_1 : WT pg1 0 0 := ⟨0, 0, tt_1 ⟨rfl, rfl, rfl⟩, fun z => by have : (1 : Int) = 3 ∨ (1 : Int) = 4 := z; omega, Or.inl (Or.inl rfl)⟩

set_option maxRecDepth 100000 in
set_option maxHeartbeats 4000000 in
theorem h_ploop {f : Int} (hf : 0 ≤ f ∧ f < 6) (P : zF → Prop) (h1 : ∀ B1, P B1 → (0 ≤ (B1 39 16) ∧ (B1 39 16) ≤ 12) ∧ (∀ j, (B1 48) j = 0 ∨ (B1 48) j = 1)) (h2 : ∀ B1 j v, P B1 → (v = 0 ∨ v = 1) → P (zu B1 57 j v)) (h3 : ∀ B1, P B1 → pq d 26 228 [some (.inr (.inr 39)), some (.inl f), none] [] (A, B1, Y, K, T) (qV Q)) : ∀ (r : Nat) (k : Int) (B1 : zF), P B1 → 0 ≤ k → k + (r : Int) = (B1 39 16) → pq d 26 197 [some (.inr (.inr 39)), some (.inl f), some (.inl k)] [] (A, B1, Y, K, T) (qV Q) := by
  intro r
  induction r with
  | zero =>
    intro k B1 p1 k0 k1
    obtain ⟨g1, g2⟩ := h1 B1 p1
    refine pq_of 4 [(205, []), (228, [2])] [] ?_
    show ((-2147483648 ≤ k ∧ k < 2147483648) ∧ (-2147483648 ≤ (B1 39 16) ∧ (B1 39 16) < 2147483648) ∧ ((B1 39 16) ≤ k → pq d 26 228 [some (.inr (.inr (39 : Nat))), some (.inl f), none] [] (A, B1, Y, K, T) (qV Q)) ∧ (k < (B1 39 16) → pq d 26 205 [some (.inr (.inr (39 : Nat))), some (.inl f), some (.inl k)] [] (A, B1, Y, K, T) (qV Q)))
    exact ⟨by omega, by omega, fun _ => h3 B1 p1, fun z => absurd z (by omega)⟩
  | succ r ih =>
    intro k B1 p1 k0 k1
    obtain ⟨g1, g2⟩ := h1 B1 p1
    refine pq_of 18 [(197, []), (228, [2])] [] ?_
    show ((-2147483648 ≤ k ∧ k < 2147483648) ∧ (-2147483648 ≤ (B1 39 16) ∧ (B1 39 16) < 2147483648) ∧ ((B1 39 16) ≤ k → pq d 26 228 [some (.inr (.inr (39 : Nat))), some (.inl f), none] [] (A, B1, Y, K, T) (qV Q)) ∧ (k < (B1 39 16) → ((0 ≤ k ∧ k < (12 : Int)) ∧ ((0 ≤ (((12 : Int) * f) + k) ∧ (((12 : Int) * f) + k) < (72 : Int)) ∧ ((B1 48 (k).toNat) = 0 ∨ (B1 48 (k).toNat) = 1) ∧ pq d 26 197 [some (.inr (.inr (39 : Nat))), some (.inl f), some (.inl (k + (1 : Int)))] [] (A, (zu B1 57 ((((12 : Int) * f) + k)).toNat (B1 48 (k).toNat)), Y, K, T) (qV Q)))))
    exact ⟨by omega, by omega, fun z => absurd z (by omega), fun _ => ⟨by omega, by omega, g2 _, ih _ _ (h2 _ _ _ p1 (g2 _)) (by omega) (by show k + 1 + (r : Int) = (B1 39 16); omega)⟩⟩
set_option maxRecDepth 100000 in
set_option maxHeartbeats 4000000 in
theorem h_function (hd : 10 ≤ d) (h : PZ B0 B Y pg1 pg1 0 0 fr fr N F tp ow tk sc tm E ht rg bk) (htk : tk = 6) (hp : N + 1 ≤ 3 * fr + 2) (hm : 64 * (3001 - fr) + 4 ≤ m) (hq : HQ B0 m A K T Q) : pzV d 26 [.inr (.inr 39)] (A, B, Y, K, T) Q := by
  -- behind a fault
  have j285f : ∀ B1 Y1 on tn f, on ≤ 11000 → tn ≤ 1000 → PF B0 B1 Y1 on tn → pq d 26 285 [some (.inr (.inr 39)), some (.inl f), none] [] (A, B1, Y1, K, T) (qV Q) := by
    intro B1 Y1 on tn f o1 t1 f1
    refine pq_of 17 [] [] ?_
    show (0 < d ∧ pzV (d - 1) 20 [.inr (.inr (39 : Nat)), .inl (3 : Int), .inl f, .inl (B1 39 20), .inl (0 : Int), .inl (0 : Int)] (A, (zu B1 39 20 (0 : Int)), Y1, K, T) (fun Av1 Bv1 Yv1 Kv1 Tv1 => (0 < d ∧ pzV (d - 1) 21 [.inr (.inr (39 : Nat)), .inl (5 : Int)] (Av1, Bv1, Yv1, Kv1, Tv1) (fun Av2 Bv2 Yv2 Kv2 Tv2 => Q Av2 Bv2 Yv2 Kv2 Tv2))))
    exact ⟨by omega, f_wait (PF_open f1 0) (by omega) (fun B2 f2 => ⟨by omega, f_plain (by omega) f2 (by omega) (fun B3 f3 => hq.1 _ _ _ _ f3)⟩)⟩
  have j249f : ∀ B1 Y1 on tn f, on ≤ 11000 → tn ≤ 1000 → PF B0 B1 Y1 on tn → pq d 26 249 [some (.inr (.inr 39)), some (.inl f), none] [] (A, B1, Y1, K, T) (qV Q) := by
    intro B1 Y1 on tn f o1 t1 f1
    have g := PF_eq f1
    refine pq_of 3 [(256, []), (285, [])] [] ?_
    show ((-2147483648 ≤ (B1 39 10) ∧ (B1 39 10) < 2147483648) ∧ ((B1 39 10) ≠ (0 : Int) → pq d 26 285 [some (.inr (.inr (39 : Nat))), some (.inl f), none] [] (A, B1, Y1, K, T) (qV Q)) ∧ ((B1 39 10) = (0 : Int) → pq d 26 256 [some (.inr (.inr (39 : Nat))), some (.inl f), none] [] (A, B1, Y1, K, T) (qV Q)))
    exact ⟨by omega, fun _ => j285f B1 Y1 on tn f o1 t1 f1, fun z => absurd z (by omega)⟩
  have j228f : ∀ B1 Y1 on tn f, 0 ≤ f → f < 6 → on ≤ 11000 → tn ≤ 1000 → PF B0 B1 Y1 on tn → pq d 26 228 [some (.inr (.inr 39)), some (.inl f), none] [] (A, B1, Y1, K, T) (qV Q) := by
    intro B1 Y1 on tn f g0 g1 o1 t1 f1
    refine pq_of 12 [(249, [])] [] ?_
    show (0 < d ∧ pzV (d - 1) 11 [.inr (.inr (39 : Nat)), .inl (123 : Int)] (A, B1, Y1, K, T) (fun Av1 Bv1 Yv1 Kv1 Tv1 => (((1 : Int) = 0 ∨ (1 : Int) = 1) ∧ ((0 ≤ f ∧ f < (6 : Int)) ∧ pq d 26 249 [some (.inr (.inr (39 : Nat))), some (.inl f), none] [] (Av1, (zu (zu Bv1 39 37 (1 : Int)) 54 (f).toNat (Bv1 39 38)), Yv1, Kv1, Tv1) (qV Q)))))
    exact ⟨by omega, f_must (by omega) f1 (by omega) (fun B2 f2 => ⟨by omega, by omega, j249f _ Y1 on tn f o1 t1 (PF_x f2 _ 0 _).2⟩)⟩
  have j185f : ∀ B1 Y1 on tn f, 0 ≤ f → f < 6 → on ≤ 11000 → tn ≤ 1000 → PF B0 B1 Y1 on tn → pq d 26 185 [some (.inr (.inr 39)), some (.inl f), none] [] (A, B1, Y1, K, T) (qV Q) := by
    intro B1 Y1 on tn f g0 g1 o1 t1 f1
    have f2 := (PF_x f1 f.toNat (B1 39 16) 0).1
    refine pq_of 8 [(197, [])] [] ?_
    show ((0 ≤ f ∧ f < (6 : Int)) ∧ pq d 26 197 [some (.inr (.inr (39 : Nat))), some (.inl f), some (.inl (0 : Int))] [] (A, (zu B1 55 (f).toNat (B1 39 16)), Y1, K, T) (qV Q))
    refine ⟨by omega, h_ploop ⟨g0, g1⟩ (fun B2 => PF B0 B2 Y1 on tn) (fun B2 q2 => ?_) (fun B2 j v q2 hv => PF_ps q2 j hv) (fun B2 q2 => j228f B2 Y1 on tn f g0 g1 o1 t1 q2) (B1 39 16).toNat 0 _ f2 (by omega) ?_⟩
    · obtain ⟨-, -, -, -, -, -, -, hO2, -⟩ := q2
      exact ⟨hO2.1, hO2.2.2⟩
    · obtain ⟨-, -, -, -, -, -, -, hO2, -⟩ := f1
      have := hO2.1
      show (0 : Int) + ((B1 39 16).toNat : Int) = (B1 39 16)
      omega
  have j179f : ∀ B1 Y1 on tn f, 0 ≤ f → f < 6 → on ≤ 11000 → tn ≤ 1000 → PF B0 B1 Y1 on tn → pq d 26 179 [some (.inr (.inr 39)), some (.inl f), none] [] (A, B1, Y1, K, T) (qV Q) := by
    intro B1 Y1 on tn f g0 g1 o1 t1 f1
    refine pq_of 3 [(185, [])] [] ?_
    show (0 < d ∧ pzV (d - 1) 11 [.inr (.inr (39 : Nat)), .inl (41 : Int)] (A, B1, Y1, K, T) (fun Av1 Bv1 Yv1 Kv1 Tv1 => pq d 26 185 [some (.inr (.inr (39 : Nat))), some (.inl f), none] [] (Av1, Bv1, Yv1, Kv1, Tv1) (qV Q)))
    exact ⟨by omega, f_must (by omega) f1 (by omega) (fun B2 f2 => j185f B2 Y1 on tn f g0 g1 o1 t1 f2)⟩
  have j85f : ∀ B1 Y1 on tn f, PF B0 B1 Y1 on tn → pq d 26 85 [some (.inr (.inr 39)), some (.inl f), none] [] (A, B1, Y1, K, T) (qV Q) := by
    intro B1 Y1 on tn f f1
    have g := PF_eq f1
    refine pq_of 4 [(93, [])] [] ?_
    show ((-2147483648 ≤ (B1 39 10) ∧ (B1 39 10) < 2147483648) ∧ ((B1 39 10) ≤ (0 : Int) → pq d 26 93 [some (.inr (.inr (39 : Nat))), some (.inl f), none] [] (A, B1, Y1, K, T) (qV Q)) ∧ ((0 : Int) < (B1 39 10) → Q A B1 Y1 K T))
    exact ⟨by omega, fun z => absurd z (by omega), fun _ => hq.1 _ _ _ _ f1⟩
  have j64f : ∀ B1 Y1 on tn f, PF B0 B1 Y1 on tn → pq d 26 64 [some (.inr (.inr 39)), some (.inl f), none] [] (A, B1, Y1, K, T) (qV Q) := by
    intro B1 Y1 on tn f f1
    have g := PF_eq f1
    refine pq_of 3 [(71, []), (85, [])] [] ?_
    show ((-2147483648 ≤ (B1 39 10) ∧ (B1 39 10) < 2147483648) ∧ ((B1 39 10) ≠ (0 : Int) → pq d 26 85 [some (.inr (.inr (39 : Nat))), some (.inl f), none] [] (A, B1, Y1, K, T) (qV Q)) ∧ ((B1 39 10) = (0 : Int) → pq d 26 71 [some (.inr (.inr (39 : Nat))), some (.inl f), none] [] (A, B1, Y1, K, T) (qV Q)))
    exact ⟨by omega, fun _ => j85f B1 Y1 on tn f f1, fun z => absurd z (by omega)⟩
  have j33f : ∀ B1 Y1 on tn f, PF B0 B1 Y1 on tn → pq d 26 33 [some (.inr (.inr 39)), some (.inl f), none] [] (A, B1, Y1, K, T) (qV Q) := by
    intro B1 Y1 on tn f f1
    have g := PF_eq f1
    refine pq_of 3 [(40, []), (64, [])] [] ?_
    show ((-2147483648 ≤ (B1 39 10) ∧ (B1 39 10) < 2147483648) ∧ ((B1 39 10) ≠ (0 : Int) → pq d 26 64 [some (.inr (.inr (39 : Nat))), some (.inl f), none] [] (A, B1, Y1, K, T) (qV Q)) ∧ ((B1 39 10) = (0 : Int) → pq d 26 40 [some (.inr (.inr (39 : Nat))), some (.inl f), none] [] (A, B1, Y1, K, T) (qV Q)))
    exact ⟨by omega, fun _ => j64f B1 Y1 on tn f f1, fun z => absurd z (by omega)⟩
  -- without a fault
  have N0 := PZ_tk h
  have j285 : ∀ B1 Y1 f1 ow1 k1 s1, fr < f1 → F < 6 → PZ B0 B1 Y1 pg1 pg1 0 0 f1 f1 N F tp ow1 k1 s1 tm E ht rg bk → (B1 54) F.toNat = N → (0 ≤ (B1 55) F.toNat ∧ (B1 55) F.toNat ≤ ow1) → pq d 26 285 [some (.inr (.inr 39)), some (.inl F), none] [] (A, B1, Y1, K, T) (qV Q) := by
    intro B1 Y1 f1 ow1 k1 s1 g1 F6 h1 hb hpr
    have e1 := PZ_eq h1
    have h2 : PZ B0 (zu B1 39 20 0) Y1 pg1 pg1 0 0 f1 f1 N F tp ow1 k1 s1 N E ht rg bk := by
      obtain ⟨a1, a2, a3, a4, a5, a6, a7, a8, a9, a10, a11, a12⟩ := PZ_open h1 0
      exact ⟨a1, a2, a3, a4, a5, a6, a7, a8, a9, a10, CT_tm a11 a11.1.2.2.2 (Int.le_refl _), TD_1⟩
    have hl : rg N.toNat = F ∧ ht N.toNat = 0 ∧ bk N.toNat = 0 := by
      obtain ⟨-, -, -, -, ⟨-, -, -, -, -, -, -, -, -, q10, -⟩, -, -, -, -, -, q11, -⟩ := id h1
      exact ⟨q11.2.2.2.1, q10, q11.2.2.1 _ (by have := q11.1; omega)⟩
    refine pq_of 17 [] [] ?_
    show (0 < d ∧ pzV (d - 1) 20 [.inr (.inr (39 : Nat)), .inl (3 : Int), .inl F, .inl (B1 39 20), .inl (0 : Int), .inl (0 : Int)] (A, (zu B1 39 20 (0 : Int)), Y1, K, T) (fun Av1 Bv1 Yv1 Kv1 Tv1 => (0 < d ∧ pzV (d - 1) 21 [.inr (.inr (39 : Nat)), .inl (5 : Int)] (Av1, Bv1, Yv1, Kv1, Tv1) (fun Av2 Bv2 Yv2 Kv2 Tv2 => Q Av2 Bv2 Yv2 Kv2 Tv2))))
    refine ⟨by omega, z_wait h2 (by show 1 < 2000; omega) ?_ (fun B3 h3 s3 => ⟨by omega, z_plain (by omega) h3 (by show 2 < 2000; omega) (td_0 (by omega)) (fun B4 h4 s4 => ?_)⟩)⟩
    · refine ⟨?_, fun _ => ⟨⟨rfl, by omega, F6⟩, ?_, hpr⟩, ?_, ?_, ?_, ?_, ?_, ?_, ?_, ?_, ?_, ?_, ?_, ?_⟩ <;> first | (intro z; omega) | skip
      show (1 ≤ (B1 54) F.toNat ∧ (B1 54) F.toNat ≤ N) ∧ rg ((B1 54) F.toNat).toNat = F ∧ ht ((B1 54) F.toNat).toNat = 0 ∧ bk ((B1 54) F.toNat).toNat = 0
      rw [hb]
      exact ⟨by omega, hl.1, hl.2.1, hl.2.2⟩
    · exact hq.2.1 _ _ _ _ _ _ _ _ _ _ _ _ _ _ _ _ _ h4 (WT_c2 (tt_5 ⟨by show (1 : Int) ≤ 2; omega, by show (2 : Int) ≤ _; omega, rfl, by omega⟩) (WT_c2 (tt_3 ⟨rfl, rfl, rfl⟩) WT_1 rfl rfl (fun _ => rfl)) rfl rfl) (by show N + (0 + (1 + (1 + 0))) ≤ _; omega) (by omega) (by show 64 * (3001 - f1) + (1 + (1 + (4 + 0))) < m; omega)
  have j249 : ∀ (r : Nat) B1 Y1 f1 ow1 k1 s1, fr < f1 → 3001 ≤ f1 + (r : Int) → F < 6 → PZ B0 B1 Y1 pg1 pg1 0 0 f1 f1 N F tp ow1 k1 s1 tm E ht rg bk → (B1 54) F.toNat = N → (0 ≤ (B1 55) F.toNat ∧ (B1 55) F.toNat ≤ ow1) → pq d 26 249 [some (.inr (.inr 39)), some (.inl F), none] [] (A, B1, Y1, K, T) (qV Q) := by
    intro r
    induction r with
    | zero =>
      intro B1 Y1 f1 ow1 k1 s1 g1 hr F6 h1
      have := (PZ_tk h1).1
      omega
    | succ r ih =>
      intro B1 Y1 f1 ow1 k1 s1 g1 hr F6 h1 hb hpr
      have e1 := PZ_eq h1
      obtain ⟨p1, p2, p3, -⟩ := PZ_tk h1
      have e285 := j285 B1 Y1 f1 ow1 k1 s1 g1 F6 h1 hb hpr
      have j272 : pq d 26 272 [some (.inr (.inr 39)), some (.inl F), none] [] (A, B1, Y1, K, T) (qV Q) := by
        refine pq_of 6 [(249, [])] [] ?_
        show (0 < d ∧ pzV (d - 1) 19 [.inr (.inr (39 : Nat))] (A, B1, Y1, K, T) (fun Av1 Bv1 Yv1 Kv1 Tv1 => (0 < d ∧ pzV (d - 1) 11 [.inr (.inr (39 : Nat)), .inl (59 : Int)] (Av1, Bv1, Yv1, Kv1, Tv1) (fun Av2 Bv2 Yv2 Kv2 Tv2 => pq d 26 249 [some (.inr (.inr (39 : Nat))), some (.inl F), none] [] (Av2, Bv2, Yv2, Kv2, Tv2) (qV Q)))))
        refine ⟨by omega, z_own (by omega) h1 (by omega) (fun B2 Y2 f2 => ⟨by omega, f_must (by omega) f2 (by omega) (fun B3 f3 => j249f B3 Y2 _ _ F (by omega) (by show (1 : Int) ≤ 1000; omega) f3)⟩) (fun B2 Y2 f2 k2 s2 g2 o2 h2 b54 b55 => ⟨by omega, z_must (by omega) h2 (by omega) (by omega) (fun B3 f3 => j249f B3 Y2 _ _ F (by omega) (by show (1 : Int) ≤ 1000; omega) f3) (fun B3 Y3 f3 k3 z g3 g4 h3 sm3 => ?_)⟩)⟩
        obtain ⟨-, -, -, q54, q55, -⟩ := SM_k sm3
        exact ih B3 Y3 f3 (ow1 + 1) k3 s2 (by omega) (by omega) F6 h3 (by rw [q54, b54]; exact hb) (by rw [q55, b55]; omega)
      refine pq_of 11 [(272, []), (285, [])] [] ?_
      show ((-2147483648 ≤ (B1 39 10) ∧ (B1 39 10) < 2147483648) ∧ ((B1 39 10) ≠ (0 : Int) → pq d 26 285 [some (.inr (.inr (39 : Nat))), some (.inl F), none] [] (A, B1, Y1, K, T) (qV Q)) ∧ ((B1 39 10) = (0 : Int) → ((-2147483648 ≤ (B1 39 6) ∧ (B1 39 6) < 2147483648) ∧ (-2147483648 ≤ (4 : Int) ∧ (4 : Int) < 2147483648) ∧ ((B1 39 6) = (4 : Int) → pq d 26 272 [some (.inr (.inr (39 : Nat))), some (.inl F), none] [] (A, B1, Y1, K, T) (qV Q)) ∧ ((B1 39 6) ≠ (4 : Int) → ((-2147483648 ≤ (B1 39 6) ∧ (B1 39 6) < 2147483648) ∧ (-2147483648 ≤ (5 : Int) ∧ (5 : Int) < 2147483648) ∧ ((B1 39 6) ≠ (5 : Int) → pq d 26 285 [some (.inr (.inr (39 : Nat))), some (.inl F), none] [] (A, B1, Y1, K, T) (qV Q)) ∧ ((B1 39 6) = (5 : Int) → pq d 26 272 [some (.inr (.inr (39 : Nat))), some (.inl F), none] [] (A, B1, Y1, K, T) (qV Q)))))))
      exact ⟨by omega, fun z => absurd e1.1 z, fun _ => ⟨by omega, by omega, fun _ => j272, fun _ => ⟨by omega, by omega, fun _ => e285, fun _ => j272⟩⟩⟩
  have j228 : ∀ B1 Y1 f1 ow1 k1 s1, fr < f1 → F < 6 → PZ B0 B1 Y1 pg1 pg1 0 0 f1 f1 N F tp ow1 k1 s1 tm E ht rg bk → (0 ≤ (B1 55) F.toNat ∧ (B1 55) F.toNat ≤ ow1) → pq d 26 228 [some (.inr (.inr 39)), some (.inl F), none] [] (A, B1, Y1, K, T) (qV Q) := by
    intro B1 Y1 f1 ow1 k1 s1 g1 F6 h1 hpr
    refine pq_of 12 [(249, [])] [] ?_
    show (0 < d ∧ pzV (d - 1) 11 [.inr (.inr (39 : Nat)), .inl (123 : Int)] (A, B1, Y1, K, T) (fun Av1 Bv1 Yv1 Kv1 Tv1 => (((1 : Int) = 0 ∨ (1 : Int) = 1) ∧ ((0 ≤ F ∧ F < (6 : Int)) ∧ pq d 26 249 [some (.inr (.inr (39 : Nat))), some (.inl F), none] [] (Av1, (zu (zu Bv1 39 37 (1 : Int)) 54 (F).toNat (Bv1 39 38)), Yv1, Kv1, Tv1) (qV Q)))))
    refine ⟨by omega, z_must (by omega) h1 (by omega) (by omega) (fun B2 f2 => ⟨by omega, by omega, j249f _ Y1 _ _ F (by omega) (by show (1 : Int) ≤ 1000; omega) (PF_x f2 _ 0 _).2⟩) (fun B2 Y2 f2 k2 z g2 g3 h2 sm2 => ⟨by omega, by omega, ?_⟩)⟩
    obtain ⟨-, -, -, q54, q55, -⟩ := SM_k sm2
    have e2 := PZ_eq h2
    refine j249 3001 _ Y2 f2 ow1 k2 s1 (by omega) (by have := (PZ_tk h2).1; omega) F6 (PZ_fbg h2 (B2 39 38)) ?_ ?_
    · show (zu (zu B2 39 37 1) 54 F.toNat (B2 39 38)) 54 F.toNat = N
      rw [zu_ap, if_pos ⟨rfl, rfl⟩]
      exact e2.2.2.2.1
    · show 0 ≤ (B2 55) F.toNat ∧ (B2 55) F.toNat ≤ ow1
      rw [q55]
      exact hpr
  have j185 : ∀ B1 Y1 f1 ow1 k1 s1, fr < f1 → F < 6 → PZ B0 B1 Y1 pg1 pg1 0 0 f1 f1 N F tp ow1 k1 s1 tm E ht rg bk → pq d 26 185 [some (.inr (.inr 39)), some (.inl F), none] [] (A, B1, Y1, K, T) (qV Q) := by
    intro B1 Y1 f1 ow1 k1 s1 g1 F6 h1
    have e1 := PZ_eq h1
    have o1 := (PZ_tk h1).2.2.2.2.2.2.1
    refine pq_of 8 [(197, [])] [] ?_
    show ((0 ≤ F ∧ F < (6 : Int)) ∧ pq d 26 197 [some (.inr (.inr (39 : Nat))), some (.inl F), some (.inl (0 : Int))] [] (A, (zu B1 55 (F).toNat (B1 39 16)), Y1, K, T) (qV Q))
    refine ⟨by omega, h_ploop (by omega) (fun B2 => PZ B0 B2 Y1 pg1 pg1 0 0 f1 f1 N F tp ow1 k1 s1 tm E ht rg bk ∧ (B2 55) F.toNat = ow1) (fun B2 q2 => ?_) (fun B2 j v q2 hv => ⟨PZ_ps q2.1 j hv, q2.2⟩) (fun B2 q2 => j228 B2 Y1 f1 ow1 k1 s1 g1 F6 q2.1 (by rw [q2.2]; omega)) (B1 39 16).toNat 0 _ ⟨PZ_par h1 _, ?_⟩ (by omega) ?_⟩
    · obtain ⟨⟨-, -, -, -, -, -, hO2, -⟩, -⟩ := q2
      exact ⟨hO2.1, hO2.2.2⟩
    · rw [zu_ap, if_pos ⟨rfl, rfl⟩]
      exact e1.2.2.2.2.2.2.1
    · show (0 : Int) + ((B1 39 16).toNat : Int) = (B1 39 16)
      omega
  have j179 : ∀ B1 Y1 f1 ow1 k1 s1, fr < f1 → F < 6 → PZ B0 B1 Y1 pg1 pg1 0 0 f1 f1 N F tp ow1 k1 s1 tm E ht rg bk → pq d 26 179 [some (.inr (.inr 39)), some (.inl F), none] [] (A, B1, Y1, K, T) (qV Q) := by
    intro B1 Y1 f1 ow1 k1 s1 g1 F6 h1
    refine pq_of 3 [(185, [])] [] ?_
    show (0 < d ∧ pzV (d - 1) 11 [.inr (.inr (39 : Nat)), .inl (41 : Int)] (A, B1, Y1, K, T) (fun Av1 Bv1 Yv1 Kv1 Tv1 => pq d 26 185 [some (.inr (.inr (39 : Nat))), some (.inl F), none] [] (Av1, Bv1, Yv1, Kv1, Tv1) (qV Q)))
    exact ⟨by omega, z_must (by omega) h1 (by omega) (by omega) (fun B2 f2 => j185f B2 Y1 _ _ F (by omega) F6 (by omega) (by show (1 : Int) ≤ 1000; omega) f2) (fun B2 Y2 f2 k2 z g2 g3 h2 sm2 => j185 B2 Y2 f2 ow1 k2 s1 (by omega) F6 h2)⟩
  have j163f : ∀ B1 Y1 on tn, F < 6 → on ≤ 11000 → tn ≤ 1000 → PF B0 B1 Y1 on tn → pq d 26 163 [some (.inr (.inr 39)), some (.inl F), none] [] (A, B1, Y1, K, T) (qV Q) := by
    intro B1 Y1 on tn F6 o1 t1 f1
    refine pq_of 4 [(172, []), (179, [])] [] ?_
    show (0 < d ∧ pzI (d - 1) 10 [.inr (.inr (39 : Nat)), .inl (44 : Int)] (A, B1, Y1, K, T) (fun nv1 Av1 Bv1 Yv1 Kv1 Tv1 => ((-2147483648 ≤ nv1 ∧ nv1 < 2147483648) ∧ (nv1 = (0 : Int) → pq d 26 179 [some (.inr (.inr (39 : Nat))), some (.inl F), none] [] (Av1, Bv1, Yv1, Kv1, Tv1) (qV Q)) ∧ (nv1 ≠ (0 : Int) → pq d 26 172 [some (.inr (.inr (39 : Nat))), some (.inl F), none] [] (Av1, Bv1, Yv1, Kv1, Tv1) (qV Q)))))
    exact ⟨by omega, f_meets (by omega) f1 (by omega) ⟨by omega, fun _ => j179f B1 Y1 on tn F (by omega) F6 o1 t1 f1, fun z => absurd rfl z⟩⟩
  have j163 : ∀ (r : Nat) B1 Y1 f1 ow1 k1 s1, fr < f1 → 3001 ≤ f1 + (r : Int) → F < 6 → PZ B0 B1 Y1 pg1 pg1 0 0 f1 f1 N F tp ow1 k1 s1 tm E ht rg bk → pq d 26 163 [some (.inr (.inr 39)), some (.inl F), none] [] (A, B1, Y1, K, T) (qV Q) := by
    intro r
    induction r with
    | zero =>
      intro B1 Y1 f1 ow1 k1 s1 g1 hr F6 h1
      have := (PZ_tk h1).1
      omega
    | succ r ih =>
      intro B1 Y1 f1 ow1 k1 s1 g1 hr F6 h1
      refine pq_of 7 [(163, []), (179, [])] [] ?_
      show (0 < d ∧ pzI (d - 1) 10 [.inr (.inr (39 : Nat)), .inl (44 : Int)] (A, B1, Y1, K, T) (fun nv1 Av1 Bv1 Yv1 Kv1 Tv1 => ((-2147483648 ≤ nv1 ∧ nv1 < 2147483648) ∧ (nv1 = (0 : Int) → pq d 26 179 [some (.inr (.inr (39 : Nat))), some (.inl F), none] [] (Av1, Bv1, Yv1, Kv1, Tv1) (qV Q)) ∧ (nv1 ≠ (0 : Int) → (0 < d ∧ pzV (d - 1) 19 [.inr (.inr (39 : Nat))] (Av1, Bv1, Yv1, Kv1, Tv1) (fun Av2 Bv2 Yv2 Kv2 Tv2 => pq d 26 163 [some (.inr (.inr (39 : Nat))), some (.inl F), none] [] (Av2, Bv2, Yv2, Kv2, Tv2) (qV Q)))))))
      exact ⟨by omega, z_meets (by omega) h1 (by omega) (fun z => ⟨by omega, fun _ => j179 B1 Y1 f1 ow1 k1 s1 g1 F6 h1, fun w => absurd rfl w⟩) (fun B2 Y2 f2 k2 z g2 g3 h2 sm2 => ⟨by omega, fun w => absurd w (by omega), fun _ => ⟨by omega, z_own (by omega) h2 (by omega) (fun B3 Y3 f3 => j163f B3 Y3 _ _ F6 (by omega) (by show (1 : Int) ≤ 1000; omega) f3) (fun B3 Y3 f3 k3 s3 g4 o3 h3 b54 b55 => ih B3 Y3 f3 (ow1 + 1) k3 s3 (by omega) (by omega) F6 h3)⟩⟩)⟩
  have j137 : ∀ B1 Y1 f1 ow1 k1 s1, fr < f1 → F < 6 → PZ B0 B1 Y1 pg1 pg1 0 0 f1 f1 N F tp ow1 k1 s1 tm E ht rg bk → pq d 26 137 [some (.inr (.inr 39)), some (.inl F), none] [] (A, B1, Y1, K, T) (qV Q) := by
    intro B1 Y1 f1 ow1 k1 s1 g1 F6 h1
    refine pq_of 6 [(150, []), (179, [])] [] ?_
    show (0 < d ∧ pzV (d - 1) 11 [.inr (.inr (39 : Nat)), .inl (40 : Int)] (A, B1, Y1, K, T) (fun Av1 Bv1 Yv1 Kv1 Tv1 => ((-2147483648 ≤ (Bv1 39 10) ∧ (Bv1 39 10) < 2147483648) ∧ ((Bv1 39 10) ≠ (0 : Int) → pq d 26 179 [some (.inr (.inr (39 : Nat))), some (.inl F), none] [] (Av1, Bv1, Yv1, Kv1, Tv1) (qV Q)) ∧ ((Bv1 39 10) = (0 : Int) → pq d 26 150 [some (.inr (.inr (39 : Nat))), some (.inl F), none] [] (Av1, Bv1, Yv1, Kv1, Tv1) (qV Q)))))
    refine ⟨by omega, z_must (by omega) h1 (by omega) (by omega) (fun B2 f2 => ?_) (fun B2 Y2 f2 k2 z g2 g3 h2 sm2 => ?_)⟩
    · have g := PF_eq f2
      exact ⟨by omega, fun _ => j179f B2 Y1 _ _ F (by omega) F6 (by omega) (by show (1 : Int) ≤ 1000; omega) f2, fun z => absurd z (by omega)⟩
    · have e2 := PZ_eq h2
      obtain ⟨p1, p2, p3, -⟩ := PZ_tk h2
      refine ⟨by omega, fun z => absurd e2.1 z, fun _ => ?_⟩
      refine pq_of 6 [(163, []), (179, [])] [] ?_
      show ((-2147483648 ≤ (B2 39 6) ∧ (B2 39 6) < 2147483648) ∧ (-2147483648 ≤ (41 : Int) ∧ (41 : Int) < 2147483648) ∧ ((B2 39 6) = (41 : Int) → pq d 26 179 [some (.inr (.inr (39 : Nat))), some (.inl F), none] [] (A, B2, Y2, K, T) (qV Q)) ∧ ((B2 39 6) ≠ (41 : Int) → (0 < d ∧ pzV (d - 1) 19 [.inr (.inr (39 : Nat))] (A, B2, Y2, K, T) (fun Av1 Bv1 Yv1 Kv1 Tv1 => pq d 26 163 [some (.inr (.inr (39 : Nat))), some (.inl F), none] [] (Av1, Bv1, Yv1, Kv1, Tv1) (qV Q)))))
      exact ⟨by omega, by omega, fun _ => j179 B2 Y2 f2 ow1 k2 s1 (by omega) F6 h2, fun _ => ⟨by omega, z_own (by omega) h2 (by omega) (fun B3 Y3 f3 => j163f B3 Y3 _ _ F6 (by omega) (by show (1 : Int) ≤ 1000; omega) f3) (fun B3 Y3 f3 k3 s3 g4 o3 h3 b54 b55 => j163 3001 B3 Y3 f3 (ow1 + 1) k3 s3 (by omega) (by have := (PZ_tk h3).1; omega) F6 h3)⟩⟩
  have j85 : ∀ B1 Y1 f1 k1 s1, fr < f1 → F < 6 → PZ B0 B1 Y1 pg1 pg1 0 0 f1 f1 N F tp ow k1 s1 tm E ht rg bk → pq d 26 85 [some (.inr (.inr 39)), some (.inl F), none] [] (A, B1, Y1, K, T) (qV Q) := by
    intro B1 Y1 f1 k1 s1 g1 F6 h1
    have e1 := PZ_eq h1
    obtain ⟨p1, p2, p3, p4, p5, -⟩ := PZ_tk h1
    have h2 := PZ_fn0 h1
    rw [e1.2.2.2.2.1] at h2
    refine pq_of 29 [(137, [])] [] ?_
    show ((-2147483648 ≤ (B1 39 10) ∧ (B1 39 10) < 2147483648) ∧ ((B1 39 10) ≤ (0 : Int) → ((0 ≤ F ∧ F < (6 : Int)) ∧ ((0 ≤ F ∧ F < (6 : Int)) ∧ ((0 ≤ F ∧ F < (6 : Int)) ∧ ((B1 39 42) = 0 ∨ (B1 39 42) = 1) ∧ (0 < d ∧ pzV (d - 1) 5 [.inr (.inr (39 : Nat))] (A, (zu (zu (zu (zu B1 52 (F).toNat (B1 39 7)) 53 (F).toNat ((B1 39 8) - (B1 39 7))) 49 (F).toNat (B1 39 42)) 39 16 (0 : Int)), Y1, K, T) (fun Av1 Bv1 Yv1 Kv1 Tv1 => pq d 26 137 [some (.inr (.inr (39 : Nat))), some (.inl F), none] [] (Av1, Bv1, Yv1, Kv1, Tv1) (qV Q))))))) ∧ ((0 : Int) < (B1 39 10) → Q A B1 Y1 K T))
    exact ⟨by omega, fun _ => ⟨by omega, by omega, by omega, by omega, by omega, z_next (by omega) h2 (fun B3 Y3 f3 k3 g2 g3 h3 sm3 => j137 B3 Y3 f3 0 k3 s1 (by omega) F6 h3)⟩, fun z => absurd z (by omega)⟩
  have j33 : ∀ B1 Y1 f1 k1 s1, fr < f1 → PZ B0 B1 Y1 pg1 pg1 0 0 f1 f1 N F tp ow k1 s1 tm E ht rg bk → pq d 26 33 [some (.inr (.inr 39)), some (.inl F), none] [] (A, B1, Y1, K, T) (qV Q) := by
    intro B1 Y1 f1 k1 s1 g1 h1
    have e1 := PZ_eq h1
    obtain ⟨p1, p2, p3, p4, p5, -⟩ := PZ_tk h1
    obtain ⟨-, hK1, -, hT1, -, -, -, hG1, -⟩ := id h1
    refine pq_of 15 [(64, [])] [] ?_
    show ((-2147483648 ≤ (B1 39 10) ∧ (B1 39 10) < 2147483648) ∧ ((B1 39 10) ≠ (0 : Int) → pq d 26 64 [some (.inr (.inr (39 : Nat))), some (.inl F), none] [] (A, B1, Y1, K, T) (qV Q)) ∧ ((B1 39 10) = (0 : Int) → (0 < d ∧ pzI (d - 1) 14 [.inr (.inr (39 : Nat)), .inr (.inr (52 : Nat)), .inr (.inr (53 : Nat)), .inl (B1 39 17)] (A, B1, Y1, K, T) (fun nv1 Av1 Bv1 Yv1 Kv1 Tv1 => ((-2147483648 ≤ nv1 ∧ nv1 < 2147483648) ∧ (nv1 < (0 : Int) → pq d 26 64 [some (.inr (.inr (39 : Nat))), some (.inl F), none] [] (Av1, Bv1, Yv1, Kv1, Tv1) (qV Q)) ∧ ((0 : Int) ≤ nv1 → (0 < d ∧ pzV (d - 1) 9 [.inr (.inr (39 : Nat)), .inl (3 : Int)] (Av1, Bv1, Yv1, Kv1, Tv1) (fun Av2 Bv2 Yv2 Kv2 Tv2 => pq d 26 64 [some (.inr (.inr (39 : Nat))), some (.inl F), none] [] (Av2, Bv2, Yv2, Kv2, Tv2) (qV Q)))))))))
    refine ⟨by omega, fun z => absurd e1.1 z, fun _ => ⟨by omega, m_find_52 (by omega) hK1 hT1 (by omega) (by omega) (fun k hk => hG1.2.1 k (by omega)) (fun r r1 r2 => ⟨by omega, fun _ => ?_, fun _ => ⟨by omega, z_fail h1 (by omega) (by omega) (fun B2 f2 _ => j64f B2 Y1 _ _ F f2)⟩⟩)⟩⟩
    refine pq_of 10 [(85, [])] [] ?_
    show ((-2147483648 ≤ (B1 39 10) ∧ (B1 39 10) < 2147483648) ∧ ((B1 39 10) ≠ (0 : Int) → pq d 26 85 [some (.inr (.inr (39 : Nat))), some (.inl F), none] [] (A, B1, Y1, K, T) (qV Q)) ∧ ((B1 39 10) = (0 : Int) → ((-2147483648 ≤ (B1 39 17) ∧ (B1 39 17) < 2147483648) ∧ (-2147483648 ≤ (6 : Int) ∧ (6 : Int) < 2147483648) ∧ ((B1 39 17) ≠ (6 : Int) → pq d 26 85 [some (.inr (.inr (39 : Nat))), some (.inl F), none] [] (A, B1, Y1, K, T) (qV Q)) ∧ ((B1 39 17) = (6 : Int) → (0 < d ∧ pzV (d - 1) 9 [.inr (.inr (39 : Nat)), .inl (4 : Int)] (A, B1, Y1, K, T) (fun Av1 Bv1 Yv1 Kv1 Tv1 => pq d 26 85 [some (.inr (.inr (39 : Nat))), some (.inl F), none] [] (Av1, Bv1, Yv1, Kv1, Tv1) (qV Q)))))))
    exact ⟨by omega, fun z => absurd e1.1 z, fun _ => ⟨by omega, by omega, fun z6 => j85 B1 Y1 f1 k1 s1 g1 (by omega) h1, fun _ => ⟨by omega, z_fail h1 (by omega) (by omega) (fun B2 f2 _ => j85f B2 Y1 _ _ F f2)⟩⟩⟩
  refine pzV_of 10 [(20, [2]), (33, [2])] [] ?_
  show (0 < d ∧ pzV (d - 1) 5 [.inr (.inr (39 : Nat))] (A, B, Y, K, T) (fun Av1 Bv1 Yv1 Kv1 Tv1 => (0 < d ∧ pzV (d - 1) 17 [.inr (.inr (39 : Nat))] (Av1, Bv1, Yv1, Kv1, Tv1) (fun Av2 Bv2 Yv2 Kv2 Tv2 => ((-2147483648 ≤ (Bv2 39 10) ∧ (Bv2 39 10) < 2147483648) ∧ ((Bv2 39 10) ≠ (0 : Int) → pq d 26 33 [some (.inr (.inr (39 : Nat))), some (.inl (Bv2 39 17)), none] [] (Av2, Bv2, Yv2, Kv2, Tv2) (qV Q)) ∧ ((Bv2 39 10) = (0 : Int) → pq d 26 20 [some (.inr (.inr (39 : Nat))), some (.inl (Bv2 39 17)), none] [] (Av2, Bv2, Yv2, Kv2, Tv2) (qV Q)))))))
  refine ⟨by omega, z_next (by omega) h (fun B1 Y1 f1 k1 g1 g2 h1 sm1 => ⟨by omega, z_label0 (by omega) h1 (by omega) (fun B2 f2 => ?_) (fun B2 Y2 f2 k2 s2 g3 hs h2 sm2 => ?_)⟩)⟩
  · have g := PF_eq f2
    exact ⟨by omega, fun _ => j33f B2 Y1 _ _ _ f2, fun z => absurd z (by omega)⟩
  · have e2 := PZ_eq h2
    obtain ⟨p1, p2, p3, p4, p5, -⟩ := PZ_tk h2
    rw [e2.2.2.2.2.1]
    refine ⟨by omega, fun z => absurd e2.1 z, fun _ => ?_⟩
    refine pq_of 7 [(33, [])] [] ?_
    show ((-2147483648 ≤ (B2 39 6) ∧ (B2 39 6) < 2147483648) ∧ (-2147483648 ≤ (3 : Int) ∧ (3 : Int) < 2147483648) ∧ ((B2 39 6) = (3 : Int) → pq d 26 33 [some (.inr (.inr (39 : Nat))), some (.inl F), none] [] (A, B2, Y2, K, T) (qV Q)) ∧ ((B2 39 6) ≠ (3 : Int) → (0 < d ∧ pzV (d - 1) 9 [.inr (.inr (39 : Nat)), .inl (1 : Int)] (A, B2, Y2, K, T) (fun Av1 Bv1 Yv1 Kv1 Tv1 => pq d 26 33 [some (.inr (.inr (39 : Nat))), some (.inl F), none] [] (Av1, Bv1, Yv1, Kv1, Tv1) (qV Q)))))
    exact ⟨by omega, by omega, fun z => j33 B2 Y2 f2 k2 s2 (by omega) h2, fun z => ⟨by omega, z_fail h2 (by omega) (by omega) (fun B3 f3 _ => j33f B3 Y2 _ _ F f3)⟩⟩
set_option maxRecDepth 100000 in
set_option maxHeartbeats 4000000 in
theorem h_told (hd : 12 ≤ d) (h : PZ B0 B Y [] pg1 0 0 fr fr N F tp ow tk sc tm E ht rg bk) (hp : N + 1 ≤ 3 * fr + 2) (hm : 64 * (3001 - fr) + 4 ≤ m) (hq : HQ B0 m A K T Q) : pzV d 25 [.inr (.inr 39), .inl 0] (A, B, Y, K, T) Q := by
  have N0 := PZ_tk h
  have j30f : ∀ B1 Y1 on tn, PF B0 B1 Y1 on tn → pq d 25 30 [some (.inr (.inr 39)), some (.inl 0)] [] (A, B1, Y1, K, T) (qV Q) := by
    intro B1 Y1 on tn f1
    have g := PF_eq f1
    refine pq_of 4 [(38, [])] [] ?_
    show ((-2147483648 ≤ (B1 39 10) ∧ (B1 39 10) < 2147483648) ∧ ((B1 39 10) ≤ (0 : Int) → pq d 25 38 [some (.inr (.inr (39 : Nat))), some (.inl (0 : Int))] [] (A, B1, Y1, K, T) (qV Q)) ∧ ((0 : Int) < (B1 39 10) → Q A B1 Y1 K T))
    exact ⟨by omega, fun z => absurd z (by omega), fun _ => hq.1 _ _ _ _ f1⟩
  have j0f : ∀ B1 Y1 on tn, PF B0 B1 Y1 on tn → pq d 25 0 [some (.inr (.inr 39)), some (.inl 0)] [] (A, B1, Y1, K, T) (qV Q) := by
    intro B1 Y1 on tn f1
    have g := PF_eq f1
    refine pq_of 3 [(7, []), (30, [])] [] ?_
    show ((-2147483648 ≤ (B1 39 10) ∧ (B1 39 10) < 2147483648) ∧ ((B1 39 10) ≠ (0 : Int) → pq d 25 30 [some (.inr (.inr (39 : Nat))), some (.inl (0 : Int))] [] (A, B1, Y1, K, T) (qV Q)) ∧ ((B1 39 10) = (0 : Int) → pq d 25 7 [some (.inr (.inr (39 : Nat))), some (.inl (0 : Int))] [] (A, B1, Y1, K, T) (qV Q)))
    exact ⟨by omega, fun _ => j30f B1 Y1 _ _ f1, fun z => absurd z (by omega)⟩
  have j30 : ∀ B1 Y1 f1 tp1 k1 s1, fr ≤ f1 → PZ B0 B1 Y1 [] pg1 0 0 f1 f1 N F tp1 ow k1 s1 tm E ht rg bk → pq d 25 30 [some (.inr (.inr 39)), some (.inl 0)] [] (A, B1, Y1, K, T) (qV Q) := by
    intro B1 Y1 f1 tp1 k1 s1 g1 h1
    have e1 := PZ_eq h1
    obtain ⟨p1, p2, p3, p4, p5, -⟩ := PZ_tk h1
    have h2 := PZ_patch (x := (1, 0, 0, 0, 0)) (vs := []) h1 (a := 0) rfl (Or.inl ⟨rfl, rfl⟩) rfl
    rw [← e1.2.2.2.1] at h2
    refine pq_of 20 [] [] ?_
    show ((-2147483648 ≤ (B1 39 10) ∧ (B1 39 10) < 2147483648) ∧ ((B1 39 10) ≤ (0 : Int) → ((-2147483648 ≤ (B1 39 6) ∧ (B1 39 6) < 2147483648) ∧ (-2147483648 ≤ (6 : Int) ∧ (6 : Int) < 2147483648) ∧ ((B1 39 6) ≠ (6 : Int) → ((0 ≤ (0 : Int) ∧ (0 : Int) < (12000 : Int)) ∧ (0 < d ∧ pzV (d - 1) 21 [.inr (.inr (39 : Nat)), .inl (2 : Int)] (A, (zu B1 59 ((0 : Int)).toNat (B1 39 38)), Y1, K, T) (fun Av1 Bv1 Yv1 Kv1 Tv1 => (0 < d ∧ pzV (d - 1) 21 [.inr (.inr (39 : Nat)), .inl (5 : Int)] (Av1, Bv1, Yv1, Kv1, Tv1) (fun Av2 Bv2 Yv2 Kv2 Tv2 => Q Av2 Bv2 Yv2 Kv2 Tv2)))))) ∧ ((B1 39 6) = (6 : Int) → (0 < d ∧ pzV (d - 1) 20 [.inr (.inr (39 : Nat)), .inl (1 : Int), .inl (0 : Int), .inl (0 : Int), .inl (0 : Int), .inl (0 : Int)] (A, B1, Y1, K, T) (fun Av3 Bv3 Yv3 Kv3 Tv3 => (0 < d ∧ pzV (d - 1) 26 [.inr (.inr (39 : Nat))] (Av3, Bv3, Yv3, Kv3, Tv3) (fun Av4 Bv4 Yv4 Kv4 Tv4 => Q Av4 Bv4 Yv4 Kv4 Tv4))))))) ∧ ((0 : Int) < (B1 39 10) → Q A B1 Y1 K T))
    refine ⟨by omega, fun _ => ⟨by omega, by omega, fun z => ⟨by omega, by omega, z_plain (by omega) h2 (by show 0 < 2000; omega) (td_0 (by omega)) (fun B3 h3 s3 => ⟨by omega, z_plain (by omega) h3 (by show 1 < 2000; omega) (td_0 (by omega)) (fun B4 h4 s4 => ?_)⟩)⟩, fun z => ⟨by omega, z_wait0 h1 (by show 0 < 2000; omega) (fun B3 h3 => ⟨by omega, h_function (by omega) h3 (by omega) (by omega) (by omega) hq⟩)⟩⟩, fun z => absurd z (by omega)⟩
    rw [e1.2.2.2.1] at h4
    exact hq.2.1 _ _ _ _ _ _ _ _ _ _ _ _ _ _ _ _ _ h4 (WT_c2 (tt_5 ⟨by show (1 : Int) ≤ 1; omega, by show (1 : Int) ≤ _; omega, rfl, by omega⟩) ⟨0, 0, tt_2 ⟨rfl, rfl, rfl⟩, fun z => by have : (2 : Int) = 3 ∨ (2 : Int) = 4 := z; omega, Or.inl (Or.inr rfl)⟩ rfl rfl) (by show N + (0 + (1 + 0)) ≤ _; omega) (by omega) (by show 64 * (3001 - f1) + (1 + (1 + 0)) < m; omega)
  have j0 : ∀ (r : Nat) B1 Y1 f1 tp1 k1 s1, fr ≤ f1 → 3001 ≤ f1 + (r : Int) → PZ B0 B1 Y1 [] pg1 0 0 f1 f1 N F tp1 ow k1 s1 tm E ht rg bk → pq d 25 0 [some (.inr (.inr 39)), some (.inl 0)] [] (A, B1, Y1, K, T) (qV Q) := by
    intro r
    induction r with
    | zero =>
      intro B1 Y1 f1 tp1 k1 s1 g1 hr h1
      have := (PZ_tk h1).1
      omega
    | succ r ih =>
      intro B1 Y1 f1 tp1 k1 s1 g1 hr h1
      have e1 := PZ_eq h1
      obtain ⟨p1, p2, p3, p4, p5, -⟩ := PZ_tk h1
      have j23 : pq d 25 23 [some (.inr (.inr 39)), some (.inl 0)] [] (A, B1, Y1, K, T) (qV Q) := by
        refine pq_of 3 [(0, [])] [] ?_
        show (0 < d ∧ pzV (d - 1) 18 [.inr (.inr (39 : Nat))] (A, B1, Y1, K, T) (fun Av1 Bv1 Yv1 Kv1 Tv1 => pq d 25 0 [some (.inr (.inr (39 : Nat))), some (.inl (0 : Int))] [] (Av1, Bv1, Yv1, Kv1, Tv1) (qV Q)))
        exact ⟨by omega, z_top (by omega) h1 (by omega) (fun B2 Y2 f2 => j0f B2 Y2 _ _ f2) (fun B2 Y2 f2 k2 s2 g2 h2 => ih B2 Y2 f2 (tp1 + 1) k2 s2 (by omega) (by omega) h2)⟩
      refine pq_of 11 [(23, []), (30, [])] [] ?_
      show ((-2147483648 ≤ (B1 39 10) ∧ (B1 39 10) < 2147483648) ∧ ((B1 39 10) ≠ (0 : Int) → pq d 25 30 [some (.inr (.inr (39 : Nat))), some (.inl (0 : Int))] [] (A, B1, Y1, K, T) (qV Q)) ∧ ((B1 39 10) = (0 : Int) → ((-2147483648 ≤ (B1 39 6) ∧ (B1 39 6) < 2147483648) ∧ (-2147483648 ≤ (4 : Int) ∧ (4 : Int) < 2147483648) ∧ ((B1 39 6) = (4 : Int) → pq d 25 23 [some (.inr (.inr (39 : Nat))), some (.inl (0 : Int))] [] (A, B1, Y1, K, T) (qV Q)) ∧ ((B1 39 6) ≠ (4 : Int) → ((-2147483648 ≤ (B1 39 6) ∧ (B1 39 6) < 2147483648) ∧ (-2147483648 ≤ (5 : Int) ∧ (5 : Int) < 2147483648) ∧ ((B1 39 6) ≠ (5 : Int) → pq d 25 30 [some (.inr (.inr (39 : Nat))), some (.inl (0 : Int))] [] (A, B1, Y1, K, T) (qV Q)) ∧ ((B1 39 6) = (5 : Int) → pq d 25 23 [some (.inr (.inr (39 : Nat))), some (.inl (0 : Int))] [] (A, B1, Y1, K, T) (qV Q)))))))
      exact ⟨by omega, fun z => absurd e1.1 z, fun _ => ⟨by omega, by omega, fun _ => j23, fun _ => ⟨by omega, by omega, fun _ => j30 B1 Y1 f1 tp1 k1 s1 g1 h1, fun _ => j23⟩⟩⟩
  exact pzV_pq (j0 3001 B Y fr tp tk sc (by omega) (by have := N0.1; omega) h)
end FUN
