/-! The law: its cases -/
theorem MI_390 {B Y : zF} {sz v : Int} (h : MI B Y sz) : MI (zu B 39 0 v) Y sz := by
  obtain ⟨hY, h⟩ := h
  refine ⟨hY, ?_⟩
  rcases h with ⟨a1, a2, a3, a4, a5, a6, a7⟩ | ⟨⟨a1, a2, a3, a4, a5, a6, a7, a8⟩, a9⟩
  · exact Or.inl ⟨a1, a2, a3, a4, a5, a6, a7⟩
  · exact Or.inr ⟨⟨a1, a2, a3, a4, a5, a6, a7, a8⟩, a9⟩
set_option maxRecDepth 10000 in
set_option maxHeartbeats 1000000 in
theorem l_120 {xs : Nat → Int32} {Ln x : Nat} {i sz sz2 w : Int} {A B Y : zF} {K : Nat} {T : zT} (hL : Ln ≤ 192) (hI : XI 0 sz2 A K T) (hM : MI B Y sz) (h0 : 0 ≤ i) (h1 : i + 4 ≤ (Ln : Int)) (hx : x < 300) (N : ∀ (x' : Nat) (A' B' Y' : zF) (K' : Nat) (T' : zT) (sz' : Int), x' ≤ x + 1 → XI 0 sz' A' K' T' → MI B' Y' sz' → pvq xs Ln x' 436 [some (.inr (.inr (900 : Nat))), some (.inr (.inr (0 : Nat))), some (.inr (.inr (39 : Nat))), some (.inr (.inr (74 : Nat))), some (.inl i), none, none] [] (A', B', Y', K', T')) {NN : Nat} (hN : NN < 2 ^ 64) (hv : Int64.ofInt (zlor (zlsh (sx xs (i + (1 : Int))) (32 : Int)) (zlan (sx xs (i + (2 : Int))) (4294967295 : Int))) = lN NN) (hw : (w = 0 ∧ ¬ fd_B NN (Int32.ofInt (sx xs (i + (3 : Int)))) sz.toNat ∧ sz2 = sz) ∨ ∃ m : Nat, w = 1 ∧ m ≤ 8 ∧ Int32.ofInt (sx xs (i + (3 : Int))) = nI m ∧ fd_B NN (Int32.ofInt (sx xs (i + (3 : Int)))) sz.toNat ∧ sz2 = ((sz.toNat + m : Nat) : Int)) : pvq xs Ln x 120 [some (.inr (.inr (900 : Nat))), some (.inr (.inr (0 : Nat))), some (.inr (.inr (39 : Nat))), some (.inr (.inr (74 : Nat))), some (.inl i), none, none] [.inl w] (A, B, Y, K, T) := by
  refine pvq_of 5 [] rfl ?_
  show pvq xs Ln x 126 [some (.inr (.inr (900 : Nat))), some (.inr (.inr (0 : Nat))), some (.inr (.inr (39 : Nat))), some (.inr (.inr (74 : Nat))), some (.inl i), none, none] [.inl (i + (1 : Int)), .inr (.inr (900 : Nat)), .inr (.inr (39 : Nat)), .inl w] (A, B, Y, K, T)
  refine pvq_rd rfl (by omega) (by omega) hL ?_
  have f1 := sx_r xs (i + (1 : Int))
  refine pvq_of 2 [] rfl ?_
  show ((-2147483648 ≤ (sx xs (i + (1 : Int))) ∧ (sx xs (i + (1 : Int))) < 2147483648) ∧ pvq xs Ln x 130 [some (.inr (.inr (900 : Nat))), some (.inr (.inr (0 : Nat))), some (.inr (.inr (39 : Nat))), some (.inr (.inr (74 : Nat))), some (.inl i), none, none] [.inl (32 : Int), .inr (.inl (sx xs (i + (1 : Int)))), .inr (.inr (39 : Nat)), .inl w] (A, B, Y, K, T))
  refine ⟨by omega, ?_⟩
  refine pvq_lsh rfl ?_
  refine pvq_of 4 [] rfl ?_
  show pvq xs Ln x 136 [some (.inr (.inr (900 : Nat))), some (.inr (.inr (0 : Nat))), some (.inr (.inr (39 : Nat))), some (.inr (.inr (74 : Nat))), some (.inl i), none, none] [.inl (i + (2 : Int)), .inr (.inr (900 : Nat)), .inr (.inl (zlsh (sx xs (i + (1 : Int))) (32 : Int))), .inr (.inr (39 : Nat)), .inl w] (A, B, Y, K, T)
  refine pvq_rd rfl (by omega) (by omega) hL ?_
  have f2 := sx_r xs (i + (2 : Int))
  refine pvq_of 2 [] rfl ?_
  show ((-2147483648 ≤ (sx xs (i + (2 : Int))) ∧ (sx xs (i + (2 : Int))) < 2147483648) ∧ pvq xs Ln x 141 [some (.inr (.inr (900 : Nat))), some (.inr (.inr (0 : Nat))), some (.inr (.inr (39 : Nat))), some (.inr (.inr (74 : Nat))), some (.inl i), none, none] [.inr (.inl (4294967295 : Int)), .inr (.inl (sx xs (i + (2 : Int)))), .inr (.inl (zlsh (sx xs (i + (1 : Int))) (32 : Int))), .inr (.inr (39 : Nat)), .inl w] (A, B, Y, K, T))
  refine ⟨by omega, ?_⟩
  refine pvq_lan rfl ?_
  refine pvq_lor rfl ?_
  refine pvq_of 4 [] rfl ?_
  show pvq xs Ln x 148 [some (.inr (.inr (900 : Nat))), some (.inr (.inr (0 : Nat))), some (.inr (.inr (39 : Nat))), some (.inr (.inr (74 : Nat))), some (.inl i), none, none] [.inl (i + (3 : Int)), .inr (.inr (900 : Nat)), .inr (.inl (zlor (zlsh (sx xs (i + (1 : Int))) (32 : Int)) (zlan (sx xs (i + (2 : Int))) (4294967295 : Int)))), .inr (.inr (39 : Nat)), .inl w] (A, B, Y, K, T)
  refine pvq_rd rfl (by omega) (by omega) hL ?_
  have f3 := sx_r xs (i + (3 : Int))
  refine pvq_call (i := .invokevirtual 47) (mj := 1) (S' := [.inl w]) (as := [.ref 39, .long (Int64.ofInt (zlor (zlsh (sx xs (i + (1 : Int))) (32 : Int)) (zlan (sx xs (i + (2 : Int))) (4294967295 : Int)))), .int (Int32.ofInt (sx xs (i + (3 : Int))))]) rfl (fun _ => rfl) rfl ?_
  refine z_feedM hM hN hv (fun B9 hB hM9 => ⟨0, (A, B9, Y, K, T), rfl, rfl, ?_⟩) (fun m B9 hm8 hm hB hM9 => ⟨1, (A, B9, Y, K, T), rfl, rfl, ?_⟩)
  · skip
    rcases hw with ⟨rfl, hB2, rfl⟩ | ⟨m2, rfl, hm82, hm2, hB2, rfl⟩
    · skip
      refine pvq_of 2 [] rfl ?_
      show ((-2147483648 ≤ (0 : Int) ∧ (0 : Int) < 2147483648) ∧ (-2147483648 ≤ (0 : Int) ∧ (0 : Int) < 2147483648) ∧ ((0 : Int) = (0 : Int) → pvq xs Ln x 436 [some (.inr (.inr (900 : Nat))), some (.inr (.inr (0 : Nat))), some (.inr (.inr (39 : Nat))), some (.inr (.inr (74 : Nat))), some (.inl i), none, none] [] (A, B9, Y, K, T)) ∧ ((0 : Int) ≠ (0 : Int) → pvq xs Ln x 156 [some (.inr (.inr (900 : Nat))), some (.inr (.inr (0 : Nat))), some (.inr (.inr (39 : Nat))), some (.inr (.inr (74 : Nat))), some (.inl i), none, none] [.inl (0 : Int)] (A, B9, Y, K, T)))
      refine ⟨by omega, by omega, fun z4 => ?_, fun z4 => ?_⟩
      · skip
        exact N _ _ _ _ _ _ _ (by omega) hI hM9
      · skip
        exfalso
        omega
    · skip
      exact absurd hB2 hB
  · skip
    rcases hw with ⟨rfl, hB2, rfl⟩ | ⟨m2, rfl, hm82, hm2, hB2, rfl⟩
    · skip
      exact absurd hB hB2
    · skip
      have em : m2 = m := (nI_eq (by omega) (by omega)).mp (hm2.symm.trans hm)
      subst em
      refine pvq_of 2 [] rfl ?_
      show ((-2147483648 ≤ (1 : Int) ∧ (1 : Int) < 2147483648) ∧ (-2147483648 ≤ (1 : Int) ∧ (1 : Int) < 2147483648) ∧ ((1 : Int) = (1 : Int) → pvq xs Ln x 436 [some (.inr (.inr (900 : Nat))), some (.inr (.inr (0 : Nat))), some (.inr (.inr (39 : Nat))), some (.inr (.inr (74 : Nat))), some (.inl i), none, none] [] (A, B9, Y, K, T)) ∧ ((1 : Int) ≠ (1 : Int) → pvq xs Ln x 156 [some (.inr (.inr (900 : Nat))), some (.inr (.inr (0 : Nat))), some (.inr (.inr (39 : Nat))), some (.inr (.inr (74 : Nat))), some (.inl i), none, none] [.inl (0 : Int)] (A, B9, Y, K, T)))
      refine ⟨by omega, by omega, fun z5 => ?_, fun z5 => ?_⟩
      · skip
        exact N _ _ _ _ _ _ _ (by omega) hI hM9
      · skip
        exfalso
        omega

set_option maxRecDepth 10000 in
set_option maxHeartbeats 1000000 in
theorem l_88 {xs : Nat → Int32} {Ln x : Nat} {i sz : Int} {A B Y : zF} {K : Nat} {T : zT} (hL : Ln ≤ 192) (hI : XI 0 sz A K T) (hM : MI B Y sz) (h0 : 0 ≤ i) (h1 : i + 4 ≤ (Ln : Int)) (hx : x < 300) (N : ∀ (x' : Nat) (A' B' Y' : zF) (K' : Nat) (T' : zT) (sz' : Int), x' ≤ x + 1 → XI 0 sz' A' K' T' → MI B' Y' sz' → pvq xs Ln x' 436 [some (.inr (.inr (900 : Nat))), some (.inr (.inr (0 : Nat))), some (.inr (.inr (39 : Nat))), some (.inr (.inr (74 : Nat))), some (.inl i), none, none] [] (A', B', Y', K', T')) : pvq xs Ln x 88 [some (.inr (.inr (900 : Nat))), some (.inr (.inr (0 : Nat))), some (.inr (.inr (39 : Nat))), some (.inr (.inr (74 : Nat))), some (.inl i), none, none] [] (A, B, Y, K, T) := by
  refine pvq_of 5 [] rfl ?_
  show pvq xs Ln x 94 [some (.inr (.inr (900 : Nat))), some (.inr (.inr (0 : Nat))), some (.inr (.inr (39 : Nat))), some (.inr (.inr (74 : Nat))), some (.inl i), none, none] [.inl (i + (1 : Int)), .inr (.inr (900 : Nat)), .inr (.inr (0 : Nat))] (A, B, Y, K, T)
  refine pvq_rd rfl (by omega) (by omega) hL ?_
  have f6 := sx_r xs (i + (1 : Int))
  refine pvq_of 2 [] rfl ?_
  show ((-2147483648 ≤ (sx xs (i + (1 : Int))) ∧ (sx xs (i + (1 : Int))) < 2147483648) ∧ pvq xs Ln x 98 [some (.inr (.inr (900 : Nat))), some (.inr (.inr (0 : Nat))), some (.inr (.inr (39 : Nat))), some (.inr (.inr (74 : Nat))), some (.inl i), none, none] [.inl (32 : Int), .inr (.inl (sx xs (i + (1 : Int)))), .inr (.inr (0 : Nat))] (A, B, Y, K, T))
  refine ⟨by omega, ?_⟩
  refine pvq_lsh rfl ?_
  refine pvq_of 4 [] rfl ?_
  show pvq xs Ln x 104 [some (.inr (.inr (900 : Nat))), some (.inr (.inr (0 : Nat))), some (.inr (.inr (39 : Nat))), some (.inr (.inr (74 : Nat))), some (.inl i), none, none] [.inl (i + (2 : Int)), .inr (.inr (900 : Nat)), .inr (.inl (zlsh (sx xs (i + (1 : Int))) (32 : Int))), .inr (.inr (0 : Nat))] (A, B, Y, K, T)
  refine pvq_rd rfl (by omega) (by omega) hL ?_
  have f7 := sx_r xs (i + (2 : Int))
  refine pvq_of 2 [] rfl ?_
  show ((-2147483648 ≤ (sx xs (i + (2 : Int))) ∧ (sx xs (i + (2 : Int))) < 2147483648) ∧ pvq xs Ln x 109 [some (.inr (.inr (900 : Nat))), some (.inr (.inr (0 : Nat))), some (.inr (.inr (39 : Nat))), some (.inr (.inr (74 : Nat))), some (.inl i), none, none] [.inr (.inl (4294967295 : Int)), .inr (.inl (sx xs (i + (2 : Int)))), .inr (.inl (zlsh (sx xs (i + (1 : Int))) (32 : Int))), .inr (.inr (0 : Nat))] (A, B, Y, K, T))
  refine ⟨by omega, ?_⟩
  refine pvq_lan rfl ?_
  refine pvq_lor rfl ?_
  refine pvq_of 4 [] rfl ?_
  show pvq xs Ln x 116 [some (.inr (.inr (900 : Nat))), some (.inr (.inr (0 : Nat))), some (.inr (.inr (39 : Nat))), some (.inr (.inr (74 : Nat))), some (.inl i), none, none] [.inl (i + (3 : Int)), .inr (.inr (900 : Nat)), .inr (.inl (zlor (zlsh (sx xs (i + (1 : Int))) (32 : Int)) (zlan (sx xs (i + (2 : Int))) (4294967295 : Int)))), .inr (.inr (0 : Nat))] (A, B, Y, K, T)
  refine pvq_rd rfl (by omega) (by omega) hL ?_
  have f8 := sx_r xs (i + (3 : Int))
  obtain ⟨NN, hN, hv⟩ := wb_of (Int64.ofInt (zlor (zlsh (sx xs (i + (1 : Int))) (32 : Int)) (zlan (sx xs (i + (2 : Int))) (4294967295 : Int))))
  refine pvq_call (i := .invokevirtual 43) (mj := 152) (S' := []) (as := [.ref 0, .long (Int64.ofInt (zlor (zlsh (sx xs (i + (1 : Int))) (32 : Int)) (zlan (sx xs (i + (2 : Int))) (4294967295 : Int)))), .int (Int32.ofInt (sx xs (i + (3 : Int))))]) rfl (fun _ => rfl) rfl ?_
  refine z_feedC (d := 998) hI hN hv (fun hB => ⟨0, (A, B, Y, K, T), rfl, rfl, ?_⟩) (fun m A9 hm8 hm hB hI9 => ⟨1, (A9, B, Y, K, T), rfl, rfl, ?_⟩)
  · skip
    exact l_120 hL hI hM h0 h1 hx N hN hv (Or.inl ⟨rfl, hB, rfl⟩)
  · skip
    exact l_120 hL hI9 hM h0 h1 hx N hN hv (Or.inr ⟨m, rfl, hm8, hm, hB, rfl⟩)

set_option maxRecDepth 10000 in
set_option maxHeartbeats 1000000 in
theorem l_157 {xs : Nat → Int32} {Ln x : Nat} {i sz : Int} {A B Y : zF} {K : Nat} {T : zT} (hL : Ln ≤ 192) (hI : XI 0 sz A K T) (hM : MI B Y sz) (h0 : 0 ≤ i) (h1 : i + 4 ≤ (Ln : Int)) (hx : x < 300) (N : ∀ (x' : Nat) (A' B' Y' : zF) (K' : Nat) (T' : zT) (sz' : Int), x' ≤ x + 1 → XI 0 sz' A' K' T' → MI B' Y' sz' → pvq xs Ln x' 436 [some (.inr (.inr (900 : Nat))), some (.inr (.inr (0 : Nat))), some (.inr (.inr (39 : Nat))), some (.inr (.inr (74 : Nat))), some (.inl i), none, none] [] (A', B', Y', K', T')) : pvq xs Ln x 157 [some (.inr (.inr (900 : Nat))), some (.inr (.inr (0 : Nat))), some (.inr (.inr (39 : Nat))), some (.inr (.inr (74 : Nat))), some (.inl i), none, none] [] (A, B, Y, K, T) := by
  refine pvq_of 7 [] rfl ?_
  show (0 < 1000 ∧ pzI (1000 - 1) 153 [.inr (.inr (0 : Nat))] (A, B, Y, K, T) (fun nv9 Av9 Bv9 Yv9 Kv9 Tv9 => (0 < 1000 ∧ pzI (1000 - 1) 47 [.inr (.inr (39 : Nat))] (Av9, Bv9, Yv9, Kv9, Tv9) (fun nv10 Av10 Bv10 Yv10 Kv10 Tv10 => pvq xs Ln x 436 [some (.inr (.inr (900 : Nat))), some (.inr (.inr (0 : Nat))), some (.inr (.inr (39 : Nat))), some (.inr (.inr (74 : Nat))), some (.inl i), none, none] [] (Av10, Bv10, Yv10, Kv10, Tv10)))))
  refine ⟨by omega, c_153_0 (by omega) hI (fun nv9 Av9 Kv9 Tv9 hI9 => ?_)⟩
  refine ⟨by omega, m_check (by omega) hM (fun nv10 Bv10 Yv10 hM10 => ?_)⟩
  exact N _ _ _ _ _ _ _ (by omega) hI9 hM10

set_option maxRecDepth 10000 in
set_option maxHeartbeats 1000000 in
theorem l_170 {xs : Nat → Int32} {Ln x : Nat} {i sz : Int} {A B Y : zF} {K : Nat} {T : zT} (hL : Ln ≤ 192) (hI : XI 0 sz A K T) (hM : MI B Y sz) (h0 : 0 ≤ i) (h1 : i + 4 ≤ (Ln : Int)) (hx : x < 300) (N : ∀ (x' : Nat) (A' B' Y' : zF) (K' : Nat) (T' : zT) (sz' : Int), x' ≤ x + 1 → XI 0 sz' A' K' T' → MI B' Y' sz' → pvq xs Ln x' 436 [some (.inr (.inr (900 : Nat))), some (.inr (.inr (0 : Nat))), some (.inr (.inr (39 : Nat))), some (.inr (.inr (74 : Nat))), some (.inl i), none, none] [] (A', B', Y', K', T')) : pvq xs Ln x 170 [some (.inr (.inr (900 : Nat))), some (.inr (.inr (0 : Nat))), some (.inr (.inr (39 : Nat))), some (.inr (.inr (74 : Nat))), some (.inl i), none, none] [] (A, B, Y, K, T) := by
  refine pvq_of 5 [] rfl ?_
  show pvq xs Ln x 176 [some (.inr (.inr (900 : Nat))), some (.inr (.inr (0 : Nat))), some (.inr (.inr (39 : Nat))), some (.inr (.inr (74 : Nat))), some (.inl i), none, none] [.inl (i + (1 : Int)), .inr (.inr (900 : Nat)), .inr (.inr (0 : Nat))] (A, B, Y, K, T)
  refine pvq_rd rfl (by omega) (by omega) hL ?_
  have f11 := sx_r xs (i + (1 : Int))
  refine pvq_of 4 [] rfl ?_
  show pvq xs Ln x 182 [some (.inr (.inr (900 : Nat))), some (.inr (.inr (0 : Nat))), some (.inr (.inr (39 : Nat))), some (.inr (.inr (74 : Nat))), some (.inl i), none, none] [.inl (i + (2 : Int)), .inr (.inr (900 : Nat)), .inl (sx xs (i + (1 : Int))), .inr (.inr (0 : Nat))] (A, B, Y, K, T)
  refine pvq_rd rfl (by omega) (by omega) hL ?_
  have f12 := sx_r xs (i + (2 : Int))
  refine pvq_of 4 [] rfl ?_
  show pvq xs Ln x 188 [some (.inr (.inr (900 : Nat))), some (.inr (.inr (0 : Nat))), some (.inr (.inr (39 : Nat))), some (.inr (.inr (74 : Nat))), some (.inl i), none, none] [.inl (i + (3 : Int)), .inr (.inr (900 : Nat)), .inl (sx xs (i + (2 : Int))), .inl (sx xs (i + (1 : Int))), .inr (.inr (0 : Nat))] (A, B, Y, K, T)
  refine pvq_rd rfl (by omega) (by omega) hL ?_
  have f13 := sx_r xs (i + (3 : Int))
  obtain ⟨k14, A14, Y14, K14, T14, hI14, hY14, hr14⟩ := w_174 (B := B) (Y := Y) hI (show -2147483648 ≤ (sx xs (i + (1 : Int))) ∧ (sx xs (i + (1 : Int))) ≤ 2147483647 from by omega) (show -2147483648 ≤ (sx xs (i + (2 : Int))) ∧ (sx xs (i + (2 : Int))) ≤ 2147483647 from by omega) (show -2147483648 ≤ (sx xs (i + (3 : Int))) ∧ (sx xs (i + (3 : Int))) ≤ 2147483647 from by omega)
  have hM14 := MI_Y hM hY14
  refine pvq_wr (S' := []) rfl rfl rfl (by omega) hr14 ?_
  refine pvq_of 6 [] rfl ?_
  show pvq xs Ln (x + 1) 200 [some (.inr (.inr (900 : Nat))), some (.inr (.inr (0 : Nat))), some (.inr (.inr (39 : Nat))), some (.inr (.inr (74 : Nat))), some (.inl i), some (.inl (k14.toInt)), none] [.inl (i + (1 : Int)), .inr (.inr (900 : Nat)), .inr (.inr (39 : Nat))] (A14, B, Y14, K14, T14)
  refine pvq_rd rfl (by omega) (by omega) hL ?_
  have f15 := sx_r xs (i + (1 : Int))
  refine pvq_of 4 [] rfl ?_
  show pvq xs Ln (x + 1) 206 [some (.inr (.inr (900 : Nat))), some (.inr (.inr (0 : Nat))), some (.inr (.inr (39 : Nat))), some (.inr (.inr (74 : Nat))), some (.inl i), some (.inl (k14.toInt)), none] [.inl (i + (2 : Int)), .inr (.inr (900 : Nat)), .inl (sx xs (i + (1 : Int))), .inr (.inr (39 : Nat))] (A14, B, Y14, K14, T14)
  refine pvq_rd rfl (by omega) (by omega) hL ?_
  have f16 := sx_r xs (i + (2 : Int))
  refine pvq_of 4 [] rfl ?_
  show pvq xs Ln (x + 1) 212 [some (.inr (.inr (900 : Nat))), some (.inr (.inr (0 : Nat))), some (.inr (.inr (39 : Nat))), some (.inr (.inr (74 : Nat))), some (.inl i), some (.inl (k14.toInt)), none] [.inl (i + (3 : Int)), .inr (.inr (900 : Nat)), .inl (sx xs (i + (2 : Int))), .inl (sx xs (i + (1 : Int))), .inr (.inr (39 : Nat))] (A14, B, Y14, K14, T14)
  refine pvq_rd rfl (by omega) (by omega) hL ?_
  have f17 := sx_r xs (i + (3 : Int))
  refine pvq_of 2 [] rfl ?_
  show (0 < 1000 ∧ pzV (1000 - 1) 49 [.inr (.inr (39 : Nat)), .inl (sx xs (i + (1 : Int))), .inl (sx xs (i + (2 : Int))), .inl (sx xs (i + (3 : Int)))] (A14, B, Y14, K14, T14) (fun Av18 Bv18 Yv18 Kv18 Tv18 => pvq xs Ln (x + 1) 436 [some (.inr (.inr (900 : Nat))), some (.inr (.inr (0 : Nat))), some (.inr (.inr (39 : Nat))), some (.inr (.inr (74 : Nat))), some (.inl i), none, none] [] (Av18, Bv18, Yv18, Kv18, Tv18)))
  refine ⟨by omega, m_put (by omega) hM14 (show -2147483648 ≤ (sx xs (i + (1 : Int))) ∧ (sx xs (i + (1 : Int))) < 2147483648 from by omega) (show -2147483648 ≤ (sx xs (i + (2 : Int))) ∧ (sx xs (i + (2 : Int))) < 2147483648 from by omega) (show -2147483648 ≤ (sx xs (i + (3 : Int))) ∧ (sx xs (i + (3 : Int))) < 2147483648 from by omega) (fun Bv18 hM18 => ?_)⟩
  exact N _ _ _ _ _ _ _ (by omega) hI14 hM18

set_option maxRecDepth 10000 in
set_option maxHeartbeats 1000000 in
theorem l_219 {xs : Nat → Int32} {Ln x : Nat} {i sz : Int} {A B Y : zF} {K : Nat} {T : zT} (hL : Ln ≤ 192) (hI : XI 0 sz A K T) (hM : MI B Y sz) (h0 : 0 ≤ i) (h1 : i + 4 ≤ (Ln : Int)) (hx : x < 300) (N : ∀ (x' : Nat) (A' B' Y' : zF) (K' : Nat) (T' : zT) (sz' : Int), x' ≤ x + 1 → XI 0 sz' A' K' T' → MI B' Y' sz' → pvq xs Ln x' 436 [some (.inr (.inr (900 : Nat))), some (.inr (.inr (0 : Nat))), some (.inr (.inr (39 : Nat))), some (.inr (.inr (74 : Nat))), some (.inl i), none, none] [] (A', B', Y', K', T')) : pvq xs Ln x 219 [some (.inr (.inr (900 : Nat))), some (.inr (.inr (0 : Nat))), some (.inr (.inr (39 : Nat))), some (.inr (.inr (74 : Nat))), some (.inl i), none, none] [] (A, B, Y, K, T) := by
  refine pvq_of 5 [] rfl ?_
  show pvq xs Ln x 225 [some (.inr (.inr (900 : Nat))), some (.inr (.inr (0 : Nat))), some (.inr (.inr (39 : Nat))), some (.inr (.inr (74 : Nat))), some (.inl i), none, none] [.inl (i + (1 : Int)), .inr (.inr (900 : Nat)), .inr (.inr (0 : Nat))] (A, B, Y, K, T)
  refine pvq_rd rfl (by omega) (by omega) hL ?_
  have f19 := sx_r xs (i + (1 : Int))
  refine pvq_of 1 [] rfl ?_
  show pvq xs Ln x 227 [some (.inr (.inr (900 : Nat))), some (.inr (.inr (0 : Nat))), some (.inr (.inr (39 : Nat))), some (.inr (.inr (74 : Nat))), some (.inl i), none, none] [.inr (.inr (74 : Nat)), .inl (sx xs (i + (1 : Int))), .inr (.inr (0 : Nat))] (A, B, Y, K, T)
  obtain ⟨k20, A20, Y20, K20, T20, hI20, hY20, hr20⟩ := w_175 (B := B) (Y := Y) hI (show -2147483648 ≤ (sx xs (i + (1 : Int))) ∧ (sx xs (i + (1 : Int))) ≤ 2147483647 from by omega)
  have hM20 := MI_Y hM hY20
  refine pvq_wr (S' := []) rfl rfl rfl (by omega) hr20 ?_
  refine pvq_of 6 [] rfl ?_
  show pvq xs Ln (x + 1) 238 [some (.inr (.inr (900 : Nat))), some (.inr (.inr (0 : Nat))), some (.inr (.inr (39 : Nat))), some (.inr (.inr (74 : Nat))), some (.inl i), some (.inl (k20.toInt)), none] [.inl (i + (1 : Int)), .inr (.inr (900 : Nat)), .inr (.inr (39 : Nat))] (A20, B, Y20, K20, T20)
  refine pvq_rd rfl (by omega) (by omega) hL ?_
  have f21 := sx_r xs (i + (1 : Int))
  refine pvq_of 3 [] rfl ?_
  show (0 < 1000 ∧ pzI (1000 - 1) 54 [.inr (.inr (39 : Nat)), .inl (sx xs (i + (1 : Int)))] (A20, B, Y20, K20, T20) (fun nv22 Av22 Bv22 Yv22 Kv22 Tv22 => pvq xs Ln (x + 1) 436 [some (.inr (.inr (900 : Nat))), some (.inr (.inr (0 : Nat))), some (.inr (.inr (39 : Nat))), some (.inr (.inr (74 : Nat))), some (.inl i), none, none] [] (Av22, Bv22, Yv22, Kv22, Tv22)))
  refine ⟨by omega, m_run (by omega) hM20 (show -2147483648 ≤ (sx xs (i + (1 : Int))) ∧ (sx xs (i + (1 : Int))) < 2147483648 from by omega) (fun nv22 Bv22 hM22 => ?_)⟩
  exact N _ _ _ _ _ _ _ (by omega) hI20 hM22

set_option maxRecDepth 10000 in
set_option maxHeartbeats 1000000 in
theorem l_247 {xs : Nat → Int32} {Ln x : Nat} {i sz : Int} {A B Y : zF} {K : Nat} {T : zT} (hL : Ln ≤ 192) (hI : XI 0 sz A K T) (hM : MI B Y sz) (h0 : 0 ≤ i) (h1 : i + 4 ≤ (Ln : Int)) (hx : x < 300) (N : ∀ (x' : Nat) (A' B' Y' : zF) (K' : Nat) (T' : zT) (sz' : Int), x' ≤ x + 1 → XI 0 sz' A' K' T' → MI B' Y' sz' → pvq xs Ln x' 436 [some (.inr (.inr (900 : Nat))), some (.inr (.inr (0 : Nat))), some (.inr (.inr (39 : Nat))), some (.inr (.inr (74 : Nat))), some (.inl i), none, none] [] (A', B', Y', K', T')) : pvq xs Ln x 247 [some (.inr (.inr (900 : Nat))), some (.inr (.inr (0 : Nat))), some (.inr (.inr (39 : Nat))), some (.inr (.inr (74 : Nat))), some (.inl i), none, none] [] (A, B, Y, K, T) := by
  refine pvq_of 5 [] rfl ?_
  show pvq xs Ln x 253 [some (.inr (.inr (900 : Nat))), some (.inr (.inr (0 : Nat))), some (.inr (.inr (39 : Nat))), some (.inr (.inr (74 : Nat))), some (.inl i), none, none] [.inl (i + (1 : Int)), .inr (.inr (900 : Nat)), .inr (.inr (0 : Nat))] (A, B, Y, K, T)
  refine pvq_rd rfl (by omega) (by omega) hL ?_
  have f23 := sx_r xs (i + (1 : Int))
  refine pvq_of 1 [] rfl ?_
  show pvq xs Ln x 255 [some (.inr (.inr (900 : Nat))), some (.inr (.inr (0 : Nat))), some (.inr (.inr (39 : Nat))), some (.inr (.inr (74 : Nat))), some (.inl i), none, none] [.inr (.inr (74 : Nat)), .inl (sx xs (i + (1 : Int))), .inr (.inr (0 : Nat))] (A, B, Y, K, T)
  obtain ⟨k24, A24, Y24, K24, T24, hI24, hY24, hr24⟩ := w_176 (B := B) (Y := Y) hI (show -2147483648 ≤ (sx xs (i + (1 : Int))) ∧ (sx xs (i + (1 : Int))) ≤ 2147483647 from by omega)
  have hM24 := MI_Y hM hY24
  refine pvq_wr (S' := []) rfl rfl rfl (by omega) hr24 ?_
  refine pvq_of 6 [] rfl ?_
  show pvq xs Ln (x + 1) 266 [some (.inr (.inr (900 : Nat))), some (.inr (.inr (0 : Nat))), some (.inr (.inr (39 : Nat))), some (.inr (.inr (74 : Nat))), some (.inl i), some (.inl (k24.toInt)), none] [.inl (i + (1 : Int)), .inr (.inr (900 : Nat)), .inr (.inr (39 : Nat))] (A24, B, Y24, K24, T24)
  refine pvq_rd rfl (by omega) (by omega) hL ?_
  have f25 := sx_r xs (i + (1 : Int))
  refine pvq_of 3 [] rfl ?_
  show (0 < 1000 ∧ pzI (1000 - 1) 56 [.inr (.inr (39 : Nat)), .inl (sx xs (i + (1 : Int)))] (A24, B, Y24, K24, T24) (fun nv26 Av26 Bv26 Yv26 Kv26 Tv26 => pvq xs Ln (x + 1) 436 [some (.inr (.inr (900 : Nat))), some (.inr (.inr (0 : Nat))), some (.inr (.inr (39 : Nat))), some (.inr (.inr (74 : Nat))), some (.inl i), none, none] [] (Av26, Bv26, Yv26, Kv26, Tv26)))
  refine ⟨by omega, m_twin (by omega) hM24 (show -2147483648 ≤ (sx xs (i + (1 : Int))) ∧ (sx xs (i + (1 : Int))) < 2147483648 from by omega) (fun nv26 Bv26 hM26 => ?_)⟩
  exact N _ _ _ _ _ _ _ (by omega) hI24 hM26

set_option maxRecDepth 10000 in
set_option maxHeartbeats 1000000 in
theorem l_275 {xs : Nat → Int32} {Ln x : Nat} {i sz : Int} {A B Y : zF} {K : Nat} {T : zT} (hL : Ln ≤ 192) (hI : XI 0 sz A K T) (hM : MI B Y sz) (h0 : 0 ≤ i) (h1 : i + 4 ≤ (Ln : Int)) (hx : x < 300) (N : ∀ (x' : Nat) (A' B' Y' : zF) (K' : Nat) (T' : zT) (sz' : Int), x' ≤ x + 1 → XI 0 sz' A' K' T' → MI B' Y' sz' → pvq xs Ln x' 436 [some (.inr (.inr (900 : Nat))), some (.inr (.inr (0 : Nat))), some (.inr (.inr (39 : Nat))), some (.inr (.inr (74 : Nat))), some (.inl i), none, none] [] (A', B', Y', K', T')) : pvq xs Ln x 275 [some (.inr (.inr (900 : Nat))), some (.inr (.inr (0 : Nat))), some (.inr (.inr (39 : Nat))), some (.inr (.inr (74 : Nat))), some (.inl i), none, none] [] (A, B, Y, K, T) := by
  refine pvq_of 5 [] rfl ?_
  show pvq xs Ln x 281 [some (.inr (.inr (900 : Nat))), some (.inr (.inr (0 : Nat))), some (.inr (.inr (39 : Nat))), some (.inr (.inr (74 : Nat))), some (.inl i), none, none] [.inl (i + (1 : Int)), .inr (.inr (900 : Nat)), .inr (.inr (0 : Nat))] (A, B, Y, K, T)
  refine pvq_rd rfl (by omega) (by omega) hL ?_
  have f27 := sx_r xs (i + (1 : Int))
  refine pvq_of 4 [] rfl ?_
  show pvq xs Ln x 287 [some (.inr (.inr (900 : Nat))), some (.inr (.inr (0 : Nat))), some (.inr (.inr (39 : Nat))), some (.inr (.inr (74 : Nat))), some (.inl i), none, none] [.inl (i + (2 : Int)), .inr (.inr (900 : Nat)), .inl (sx xs (i + (1 : Int))), .inr (.inr (0 : Nat))] (A, B, Y, K, T)
  refine pvq_rd rfl (by omega) (by omega) hL ?_
  have f28 := sx_r xs (i + (2 : Int))
  refine pvq_of 1 [] rfl ?_
  show pvq xs Ln x 289 [some (.inr (.inr (900 : Nat))), some (.inr (.inr (0 : Nat))), some (.inr (.inr (39 : Nat))), some (.inr (.inr (74 : Nat))), some (.inl i), none, none] [.inr (.inr (74 : Nat)), .inl (sx xs (i + (2 : Int))), .inl (sx xs (i + (1 : Int))), .inr (.inr (0 : Nat))] (A, B, Y, K, T)
  obtain ⟨k29, A29, Y29, K29, T29, hI29, hY29, hr29⟩ := w_177 (B := B) (Y := Y) hI (show -2147483648 ≤ (sx xs (i + (1 : Int))) ∧ (sx xs (i + (1 : Int))) ≤ 2147483647 from by omega) (show -2147483648 ≤ (sx xs (i + (2 : Int))) ∧ (sx xs (i + (2 : Int))) ≤ 2147483647 from by omega)
  have hM29 := MI_Y hM hY29
  refine pvq_wr (S' := []) rfl rfl rfl (by omega) hr29 ?_
  refine pvq_of 6 [] rfl ?_
  show pvq xs Ln (x + 1) 300 [some (.inr (.inr (900 : Nat))), some (.inr (.inr (0 : Nat))), some (.inr (.inr (39 : Nat))), some (.inr (.inr (74 : Nat))), some (.inl i), some (.inl (k29.toInt)), none] [.inl (i + (1 : Int)), .inr (.inr (900 : Nat)), .inr (.inr (39 : Nat))] (A29, B, Y29, K29, T29)
  refine pvq_rd rfl (by omega) (by omega) hL ?_
  have f30 := sx_r xs (i + (1 : Int))
  refine pvq_of 4 [] rfl ?_
  show pvq xs Ln (x + 1) 306 [some (.inr (.inr (900 : Nat))), some (.inr (.inr (0 : Nat))), some (.inr (.inr (39 : Nat))), some (.inr (.inr (74 : Nat))), some (.inl i), some (.inl (k29.toInt)), none] [.inl (i + (2 : Int)), .inr (.inr (900 : Nat)), .inl (sx xs (i + (1 : Int))), .inr (.inr (39 : Nat))] (A29, B, Y29, K29, T29)
  refine pvq_rd rfl (by omega) (by omega) hL ?_
  have f31 := sx_r xs (i + (2 : Int))
  refine pvq_of 3 [] rfl ?_
  show (0 < 1000 ∧ pzI (1000 - 1) 57 [.inr (.inr (39 : Nat)), .inl (sx xs (i + (1 : Int))), .inl (sx xs (i + (2 : Int)))] (A29, B, Y29, K29, T29) (fun nv32 Av32 Bv32 Yv32 Kv32 Tv32 => pvq xs Ln (x + 1) 436 [some (.inr (.inr (900 : Nat))), some (.inr (.inr (0 : Nat))), some (.inr (.inr (39 : Nat))), some (.inr (.inr (74 : Nat))), some (.inl i), none, none] [] (Av32, Bv32, Yv32, Kv32, Tv32)))
  refine ⟨by omega, m_value (by omega) hM29 (show -2147483648 ≤ (sx xs (i + (1 : Int))) ∧ (sx xs (i + (1 : Int))) < 2147483648 from by omega) (show -2147483648 ≤ (sx xs (i + (2 : Int))) ∧ (sx xs (i + (2 : Int))) < 2147483648 from by omega) (fun nv32 Bv32 hM32 => ?_)⟩
  exact N _ _ _ _ _ _ _ (by omega) hI29 hM32

set_option maxRecDepth 10000 in
set_option maxHeartbeats 1000000 in
theorem l_315 {xs : Nat → Int32} {Ln x : Nat} {i sz : Int} {A B Y : zF} {K : Nat} {T : zT} (hL : Ln ≤ 192) (hI : XI 0 sz A K T) (hM : MI B Y sz) (h0 : 0 ≤ i) (h1 : i + 4 ≤ (Ln : Int)) (hx : x < 300) (N : ∀ (x' : Nat) (A' B' Y' : zF) (K' : Nat) (T' : zT) (sz' : Int), x' ≤ x + 1 → XI 0 sz' A' K' T' → MI B' Y' sz' → pvq xs Ln x' 436 [some (.inr (.inr (900 : Nat))), some (.inr (.inr (0 : Nat))), some (.inr (.inr (39 : Nat))), some (.inr (.inr (74 : Nat))), some (.inl i), none, none] [] (A', B', Y', K', T')) : pvq xs Ln x 315 [some (.inr (.inr (900 : Nat))), some (.inr (.inr (0 : Nat))), some (.inr (.inr (39 : Nat))), some (.inr (.inr (74 : Nat))), some (.inl i), none, none] [] (A, B, Y, K, T) := by
  refine pvq_of 5 [] rfl ?_
  show pvq xs Ln x 321 [some (.inr (.inr (900 : Nat))), some (.inr (.inr (0 : Nat))), some (.inr (.inr (39 : Nat))), some (.inr (.inr (74 : Nat))), some (.inl i), none, none] [.inl (i + (1 : Int)), .inr (.inr (900 : Nat)), .inr (.inr (0 : Nat))] (A, B, Y, K, T)
  refine pvq_rd rfl (by omega) (by omega) hL ?_
  have f33 := sx_r xs (i + (1 : Int))
  refine pvq_of 1 [] rfl ?_
  show pvq xs Ln x 323 [some (.inr (.inr (900 : Nat))), some (.inr (.inr (0 : Nat))), some (.inr (.inr (39 : Nat))), some (.inr (.inr (74 : Nat))), some (.inl i), none, none] [.inr (.inr (74 : Nat)), .inl (sx xs (i + (1 : Int))), .inr (.inr (0 : Nat))] (A, B, Y, K, T)
  obtain ⟨k34, A34, Y34, K34, T34, hI34, hY34, hr34⟩ := w_178 (B := B) (Y := Y) hI (show -2147483648 ≤ (sx xs (i + (1 : Int))) ∧ (sx xs (i + (1 : Int))) ≤ 2147483647 from by omega)
  have hM34 := MI_Y hM hY34
  refine pvq_wr (S' := []) rfl rfl rfl (by omega) hr34 ?_
  refine pvq_of 6 [] rfl ?_
  show pvq xs Ln (x + 1) 334 [some (.inr (.inr (900 : Nat))), some (.inr (.inr (0 : Nat))), some (.inr (.inr (39 : Nat))), some (.inr (.inr (74 : Nat))), some (.inl i), some (.inl (k34.toInt)), none] [.inl (i + (1 : Int)), .inr (.inr (900 : Nat)), .inr (.inr (39 : Nat))] (A34, B, Y34, K34, T34)
  refine pvq_rd rfl (by omega) (by omega) hL ?_
  have f35 := sx_r xs (i + (1 : Int))
  refine pvq_of 3 [] rfl ?_
  show (0 < 1000 ∧ pzI (1000 - 1) 58 [.inr (.inr (39 : Nat)), .inl (sx xs (i + (1 : Int)))] (A34, B, Y34, K34, T34) (fun nv36 Av36 Bv36 Yv36 Kv36 Tv36 => pvq xs Ln (x + 1) 436 [some (.inr (.inr (900 : Nat))), some (.inr (.inr (0 : Nat))), some (.inr (.inr (39 : Nat))), some (.inr (.inr (74 : Nat))), some (.inl i), none, none] [] (Av36, Bv36, Yv36, Kv36, Tv36)))
  refine ⟨by omega, m_note (by omega) hM34 (show -2147483648 ≤ (sx xs (i + (1 : Int))) ∧ (sx xs (i + (1 : Int))) < 2147483648 from by omega) (fun nv36 Bv36 hM36 => ?_)⟩
  exact N _ _ _ _ _ _ _ (by omega) hI34 hM36

set_option maxRecDepth 10000 in
set_option maxHeartbeats 1000000 in
theorem l_343 {xs : Nat → Int32} {Ln x : Nat} {i sz : Int} {A B Y : zF} {K : Nat} {T : zT} (hL : Ln ≤ 192) (hI : XI 0 sz A K T) (hM : MI B Y sz) (h0 : 0 ≤ i) (h1 : i + 4 ≤ (Ln : Int)) (hx : x < 300) (N : ∀ (x' : Nat) (A' B' Y' : zF) (K' : Nat) (T' : zT) (sz' : Int), x' ≤ x + 1 → XI 0 sz' A' K' T' → MI B' Y' sz' → pvq xs Ln x' 436 [some (.inr (.inr (900 : Nat))), some (.inr (.inr (0 : Nat))), some (.inr (.inr (39 : Nat))), some (.inr (.inr (74 : Nat))), some (.inl i), none, none] [] (A', B', Y', K', T')) : pvq xs Ln x 343 [some (.inr (.inr (900 : Nat))), some (.inr (.inr (0 : Nat))), some (.inr (.inr (39 : Nat))), some (.inr (.inr (74 : Nat))), some (.inl i), none, none] [] (A, B, Y, K, T) := by
  refine pvq_of 5 [] rfl ?_
  show pvq xs Ln x 349 [some (.inr (.inr (900 : Nat))), some (.inr (.inr (0 : Nat))), some (.inr (.inr (39 : Nat))), some (.inr (.inr (74 : Nat))), some (.inl i), none, none] [.inl (i + (1 : Int)), .inr (.inr (900 : Nat)), .inr (.inr (0 : Nat))] (A, B, Y, K, T)
  refine pvq_rd rfl (by omega) (by omega) hL ?_
  have f37 := sx_r xs (i + (1 : Int))
  refine pvq_of 4 [] rfl ?_
  show pvq xs Ln x 355 [some (.inr (.inr (900 : Nat))), some (.inr (.inr (0 : Nat))), some (.inr (.inr (39 : Nat))), some (.inr (.inr (74 : Nat))), some (.inl i), none, none] [.inl (i + (2 : Int)), .inr (.inr (900 : Nat)), .inl (sx xs (i + (1 : Int))), .inr (.inr (0 : Nat))] (A, B, Y, K, T)
  refine pvq_rd rfl (by omega) (by omega) hL ?_
  have f38 := sx_r xs (i + (2 : Int))
  refine pvq_of 7 [] rfl ?_
  show ((-2147483648 ≤ (sx xs (i + (2 : Int))) ∧ (sx xs (i + (2 : Int))) < 2147483648) ∧ ((sx xs (i + (2 : Int))) = (0 : Int) → pvq xs Ln x 369 [some (.inr (.inr (900 : Nat))), some (.inr (.inr (0 : Nat))), some (.inr (.inr (39 : Nat))), some (.inr (.inr (74 : Nat))), some (.inl i), none, none] [.inl (i + (3 : Int)), .inr (.inr (900 : Nat)), .inl (0 : Int), .inl (sx xs (i + (1 : Int))), .inr (.inr (0 : Nat))] (A, B, Y, K, T)) ∧ ((sx xs (i + (2 : Int))) ≠ (0 : Int) → pvq xs Ln x 369 [some (.inr (.inr (900 : Nat))), some (.inr (.inr (0 : Nat))), some (.inr (.inr (39 : Nat))), some (.inr (.inr (74 : Nat))), some (.inl i), none, none] [.inl (i + (3 : Int)), .inr (.inr (900 : Nat)), .inl (1 : Int), .inl (sx xs (i + (1 : Int))), .inr (.inr (0 : Nat))] (A, B, Y, K, T)))
  refine ⟨by omega, fun z39 => ?_, fun z39 => ?_⟩
  · skip
    refine pvq_rd rfl (by omega) (by omega) hL ?_
    have f40 := sx_r xs (i + (3 : Int))
    refine pvq_of 1 [] rfl ?_
    show pvq xs Ln x 371 [some (.inr (.inr (900 : Nat))), some (.inr (.inr (0 : Nat))), some (.inr (.inr (39 : Nat))), some (.inr (.inr (74 : Nat))), some (.inl i), none, none] [.inr (.inr (74 : Nat)), .inl (sx xs (i + (3 : Int))), .inl (0 : Int), .inl (sx xs (i + (1 : Int))), .inr (.inr (0 : Nat))] (A, B, Y, K, T)
    obtain ⟨k41, A41, Y41, K41, T41, hI41, hY41, hr41⟩ := w_179 (B := B) (Y := Y) hI (show -2147483648 ≤ (sx xs (i + (1 : Int))) ∧ (sx xs (i + (1 : Int))) ≤ 2147483647 from by omega) (show (0 : Int) = 0 ∨ (0 : Int) = 1 from by omega) (show -2147483648 ≤ (sx xs (i + (3 : Int))) ∧ (sx xs (i + (3 : Int))) ≤ 2147483647 from by omega)
    have hM41 := MI_Y hM hY41
    refine pvq_wr (S' := []) rfl rfl rfl (by omega) hr41 ?_
    refine pvq_of 6 [] rfl ?_
    show pvq xs Ln (x + 1) 382 [some (.inr (.inr (900 : Nat))), some (.inr (.inr (0 : Nat))), some (.inr (.inr (39 : Nat))), some (.inr (.inr (74 : Nat))), some (.inl i), some (.inl (k41.toInt)), none] [.inl (i + (1 : Int)), .inr (.inr (900 : Nat)), .inr (.inr (39 : Nat))] (A41, B, Y41, K41, T41)
    refine pvq_rd rfl (by omega) (by omega) hL ?_
    have f42 := sx_r xs (i + (1 : Int))
    refine pvq_of 4 [] rfl ?_
    show pvq xs Ln (x + 1) 388 [some (.inr (.inr (900 : Nat))), some (.inr (.inr (0 : Nat))), some (.inr (.inr (39 : Nat))), some (.inr (.inr (74 : Nat))), some (.inl i), some (.inl (k41.toInt)), none] [.inl (i + (2 : Int)), .inr (.inr (900 : Nat)), .inl (sx xs (i + (1 : Int))), .inr (.inr (39 : Nat))] (A41, B, Y41, K41, T41)
    refine pvq_rd rfl (by omega) (by omega) hL ?_
    have f43 := sx_r xs (i + (2 : Int))
    refine pvq_of 7 [] rfl ?_
    show ((-2147483648 ≤ (sx xs (i + (2 : Int))) ∧ (sx xs (i + (2 : Int))) < 2147483648) ∧ ((sx xs (i + (2 : Int))) = (0 : Int) → pvq xs Ln (x + 1) 402 [some (.inr (.inr (900 : Nat))), some (.inr (.inr (0 : Nat))), some (.inr (.inr (39 : Nat))), some (.inr (.inr (74 : Nat))), some (.inl i), some (.inl (k41.toInt)), none] [.inl (i + (3 : Int)), .inr (.inr (900 : Nat)), .inl (0 : Int), .inl (sx xs (i + (1 : Int))), .inr (.inr (39 : Nat))] (A41, B, Y41, K41, T41)) ∧ ((sx xs (i + (2 : Int))) ≠ (0 : Int) → pvq xs Ln (x + 1) 402 [some (.inr (.inr (900 : Nat))), some (.inr (.inr (0 : Nat))), some (.inr (.inr (39 : Nat))), some (.inr (.inr (74 : Nat))), some (.inl i), some (.inl (k41.toInt)), none] [.inl (i + (3 : Int)), .inr (.inr (900 : Nat)), .inl (1 : Int), .inl (sx xs (i + (1 : Int))), .inr (.inr (39 : Nat))] (A41, B, Y41, K41, T41)))
    refine ⟨by omega, fun z44 => ?_, fun z44 => ?_⟩
    · skip
      refine pvq_rd rfl (by omega) (by omega) hL ?_
      have f45 := sx_r xs (i + (3 : Int))
      refine pvq_of 3 [] rfl ?_
      show (0 < 1000 ∧ pzI (1000 - 1) 59 [.inr (.inr (39 : Nat)), .inl (sx xs (i + (1 : Int))), .inl (0 : Int), .inl (sx xs (i + (3 : Int)))] (A41, B, Y41, K41, T41) (fun nv46 Av46 Bv46 Yv46 Kv46 Tv46 => pvq xs Ln (x + 1) 436 [some (.inr (.inr (900 : Nat))), some (.inr (.inr (0 : Nat))), some (.inr (.inr (39 : Nat))), some (.inr (.inr (74 : Nat))), some (.inl i), none, none] [] (Av46, Bv46, Yv46, Kv46, Tv46)))
      refine ⟨by omega, m_letter (by omega) hM41 (show -2147483648 ≤ (sx xs (i + (1 : Int))) ∧ (sx xs (i + (1 : Int))) < 2147483648 from by omega) (show (0 : Int) = 0 ∨ (0 : Int) = 1 from by omega) (show -2147483648 ≤ (sx xs (i + (3 : Int))) ∧ (sx xs (i + (3 : Int))) < 2147483648 from by omega) (fun nv46 Bv46 hM46 => ?_)⟩
      exact N _ _ _ _ _ _ _ (by omega) hI41 hM46
    · skip
      refine pvq_rd rfl (by omega) (by omega) hL ?_
      have f47 := sx_r xs (i + (3 : Int))
      refine pvq_of 3 [] rfl ?_
      show (0 < 1000 ∧ pzI (1000 - 1) 59 [.inr (.inr (39 : Nat)), .inl (sx xs (i + (1 : Int))), .inl (1 : Int), .inl (sx xs (i + (3 : Int)))] (A41, B, Y41, K41, T41) (fun nv48 Av48 Bv48 Yv48 Kv48 Tv48 => pvq xs Ln (x + 1) 436 [some (.inr (.inr (900 : Nat))), some (.inr (.inr (0 : Nat))), some (.inr (.inr (39 : Nat))), some (.inr (.inr (74 : Nat))), some (.inl i), none, none] [] (Av48, Bv48, Yv48, Kv48, Tv48)))
      refine ⟨by omega, m_letter (by omega) hM41 (show -2147483648 ≤ (sx xs (i + (1 : Int))) ∧ (sx xs (i + (1 : Int))) < 2147483648 from by omega) (show (1 : Int) = 0 ∨ (1 : Int) = 1 from by omega) (show -2147483648 ≤ (sx xs (i + (3 : Int))) ∧ (sx xs (i + (3 : Int))) < 2147483648 from by omega) (fun nv48 Bv48 hM48 => ?_)⟩
      exact N _ _ _ _ _ _ _ (by omega) hI41 hM48
  · skip
    refine pvq_rd rfl (by omega) (by omega) hL ?_
    have f49 := sx_r xs (i + (3 : Int))
    refine pvq_of 1 [] rfl ?_
    show pvq xs Ln x 371 [some (.inr (.inr (900 : Nat))), some (.inr (.inr (0 : Nat))), some (.inr (.inr (39 : Nat))), some (.inr (.inr (74 : Nat))), some (.inl i), none, none] [.inr (.inr (74 : Nat)), .inl (sx xs (i + (3 : Int))), .inl (1 : Int), .inl (sx xs (i + (1 : Int))), .inr (.inr (0 : Nat))] (A, B, Y, K, T)
    obtain ⟨k50, A50, Y50, K50, T50, hI50, hY50, hr50⟩ := w_179 (B := B) (Y := Y) hI (show -2147483648 ≤ (sx xs (i + (1 : Int))) ∧ (sx xs (i + (1 : Int))) ≤ 2147483647 from by omega) (show (1 : Int) = 0 ∨ (1 : Int) = 1 from by omega) (show -2147483648 ≤ (sx xs (i + (3 : Int))) ∧ (sx xs (i + (3 : Int))) ≤ 2147483647 from by omega)
    have hM50 := MI_Y hM hY50
    refine pvq_wr (S' := []) rfl rfl rfl (by omega) hr50 ?_
    refine pvq_of 6 [] rfl ?_
    show pvq xs Ln (x + 1) 382 [some (.inr (.inr (900 : Nat))), some (.inr (.inr (0 : Nat))), some (.inr (.inr (39 : Nat))), some (.inr (.inr (74 : Nat))), some (.inl i), some (.inl (k50.toInt)), none] [.inl (i + (1 : Int)), .inr (.inr (900 : Nat)), .inr (.inr (39 : Nat))] (A50, B, Y50, K50, T50)
    refine pvq_rd rfl (by omega) (by omega) hL ?_
    have f51 := sx_r xs (i + (1 : Int))
    refine pvq_of 4 [] rfl ?_
    show pvq xs Ln (x + 1) 388 [some (.inr (.inr (900 : Nat))), some (.inr (.inr (0 : Nat))), some (.inr (.inr (39 : Nat))), some (.inr (.inr (74 : Nat))), some (.inl i), some (.inl (k50.toInt)), none] [.inl (i + (2 : Int)), .inr (.inr (900 : Nat)), .inl (sx xs (i + (1 : Int))), .inr (.inr (39 : Nat))] (A50, B, Y50, K50, T50)
    refine pvq_rd rfl (by omega) (by omega) hL ?_
    have f52 := sx_r xs (i + (2 : Int))
    refine pvq_of 7 [] rfl ?_
    show ((-2147483648 ≤ (sx xs (i + (2 : Int))) ∧ (sx xs (i + (2 : Int))) < 2147483648) ∧ ((sx xs (i + (2 : Int))) = (0 : Int) → pvq xs Ln (x + 1) 402 [some (.inr (.inr (900 : Nat))), some (.inr (.inr (0 : Nat))), some (.inr (.inr (39 : Nat))), some (.inr (.inr (74 : Nat))), some (.inl i), some (.inl (k50.toInt)), none] [.inl (i + (3 : Int)), .inr (.inr (900 : Nat)), .inl (0 : Int), .inl (sx xs (i + (1 : Int))), .inr (.inr (39 : Nat))] (A50, B, Y50, K50, T50)) ∧ ((sx xs (i + (2 : Int))) ≠ (0 : Int) → pvq xs Ln (x + 1) 402 [some (.inr (.inr (900 : Nat))), some (.inr (.inr (0 : Nat))), some (.inr (.inr (39 : Nat))), some (.inr (.inr (74 : Nat))), some (.inl i), some (.inl (k50.toInt)), none] [.inl (i + (3 : Int)), .inr (.inr (900 : Nat)), .inl (1 : Int), .inl (sx xs (i + (1 : Int))), .inr (.inr (39 : Nat))] (A50, B, Y50, K50, T50)))
    refine ⟨by omega, fun z53 => ?_, fun z53 => ?_⟩
    · skip
      refine pvq_rd rfl (by omega) (by omega) hL ?_
      have f54 := sx_r xs (i + (3 : Int))
      refine pvq_of 3 [] rfl ?_
      show (0 < 1000 ∧ pzI (1000 - 1) 59 [.inr (.inr (39 : Nat)), .inl (sx xs (i + (1 : Int))), .inl (0 : Int), .inl (sx xs (i + (3 : Int)))] (A50, B, Y50, K50, T50) (fun nv55 Av55 Bv55 Yv55 Kv55 Tv55 => pvq xs Ln (x + 1) 436 [some (.inr (.inr (900 : Nat))), some (.inr (.inr (0 : Nat))), some (.inr (.inr (39 : Nat))), some (.inr (.inr (74 : Nat))), some (.inl i), none, none] [] (Av55, Bv55, Yv55, Kv55, Tv55)))
      refine ⟨by omega, m_letter (by omega) hM50 (show -2147483648 ≤ (sx xs (i + (1 : Int))) ∧ (sx xs (i + (1 : Int))) < 2147483648 from by omega) (show (0 : Int) = 0 ∨ (0 : Int) = 1 from by omega) (show -2147483648 ≤ (sx xs (i + (3 : Int))) ∧ (sx xs (i + (3 : Int))) < 2147483648 from by omega) (fun nv55 Bv55 hM55 => ?_)⟩
      exact N _ _ _ _ _ _ _ (by omega) hI50 hM55
    · skip
      refine pvq_rd rfl (by omega) (by omega) hL ?_
      have f56 := sx_r xs (i + (3 : Int))
      refine pvq_of 3 [] rfl ?_
      show (0 < 1000 ∧ pzI (1000 - 1) 59 [.inr (.inr (39 : Nat)), .inl (sx xs (i + (1 : Int))), .inl (1 : Int), .inl (sx xs (i + (3 : Int)))] (A50, B, Y50, K50, T50) (fun nv57 Av57 Bv57 Yv57 Kv57 Tv57 => pvq xs Ln (x + 1) 436 [some (.inr (.inr (900 : Nat))), some (.inr (.inr (0 : Nat))), some (.inr (.inr (39 : Nat))), some (.inr (.inr (74 : Nat))), some (.inl i), none, none] [] (Av57, Bv57, Yv57, Kv57, Tv57)))
      refine ⟨by omega, m_letter (by omega) hM50 (show -2147483648 ≤ (sx xs (i + (1 : Int))) ∧ (sx xs (i + (1 : Int))) < 2147483648 from by omega) (show (1 : Int) = 0 ∨ (1 : Int) = 1 from by omega) (show -2147483648 ≤ (sx xs (i + (3 : Int))) ∧ (sx xs (i + (3 : Int))) < 2147483648 from by omega) (fun nv57 Bv57 hM57 => ?_)⟩
      exact N _ _ _ _ _ _ _ (by omega) hI50 hM57

set_option maxRecDepth 10000 in
set_option maxHeartbeats 1000000 in
theorem l_411 {xs : Nat → Int32} {Ln x : Nat} {i sz : Int} {A B Y : zF} {K : Nat} {T : zT} (hL : Ln ≤ 192) (hI : XI 0 sz A K T) (hM : MI B Y sz) (h0 : 0 ≤ i) (h1 : i + 4 ≤ (Ln : Int)) (hx : x < 300) (N : ∀ (x' : Nat) (A' B' Y' : zF) (K' : Nat) (T' : zT) (sz' : Int), x' ≤ x + 1 → XI 0 sz' A' K' T' → MI B' Y' sz' → pvq xs Ln x' 436 [some (.inr (.inr (900 : Nat))), some (.inr (.inr (0 : Nat))), some (.inr (.inr (39 : Nat))), some (.inr (.inr (74 : Nat))), some (.inl i), none, none] [] (A', B', Y', K', T')) : pvq xs Ln x 411 [some (.inr (.inr (900 : Nat))), some (.inr (.inr (0 : Nat))), some (.inr (.inr (39 : Nat))), some (.inr (.inr (74 : Nat))), some (.inl i), none, none] [] (A, B, Y, K, T) := by
  refine pvq_of 5 [] rfl ?_
  show pvq xs Ln x 417 [some (.inr (.inr (900 : Nat))), some (.inr (.inr (0 : Nat))), some (.inr (.inr (39 : Nat))), some (.inr (.inr (74 : Nat))), some (.inl i), none, none] [.inl (i + (1 : Int)), .inr (.inr (900 : Nat)), .inr (.inr (0 : Nat))] (A, B, Y, K, T)
  refine pvq_rd rfl (by omega) (by omega) hL ?_
  have f58 := sx_r xs (i + (1 : Int))
  refine pvq_of 7 [] rfl ?_
  show (0 < 1000 ∧ pzI (1000 - 1) 160 [.inr (.inr (0 : Nat)), .inl (sx xs (i + (1 : Int)))] (A, B, Y, K, T) (fun nv59 Av59 Bv59 Yv59 Kv59 Tv59 => pvq xs Ln x 428 [some (.inr (.inr (900 : Nat))), some (.inr (.inr (0 : Nat))), some (.inr (.inr (39 : Nat))), some (.inr (.inr (74 : Nat))), some (.inl i), none, none] [.inl (i + (1 : Int)), .inr (.inr (900 : Nat)), .inr (.inr (39 : Nat))] (Av59, Bv59, Yv59, Kv59, Tv59)))
  refine ⟨by omega, c_160_0 (by omega) hI (show -2147483648 ≤ (sx xs (i + (1 : Int))) ∧ (sx xs (i + (1 : Int))) ≤ 2147483647 from by omega) (fun nv59 => ?_)⟩
  refine pvq_rd rfl (by omega) (by omega) hL ?_
  have f60 := sx_r xs (i + (1 : Int))
  refine pvq_of 3 [] rfl ?_
  show (0 < 1000 ∧ pzI (1000 - 1) 60 [.inr (.inr (39 : Nat)), .inl (sx xs (i + (1 : Int)))] (A, B, Y, K, T) (fun nv61 Av61 Bv61 Yv61 Kv61 Tv61 => pvq xs Ln x 436 [some (.inr (.inr (900 : Nat))), some (.inr (.inr (0 : Nat))), some (.inr (.inr (39 : Nat))), some (.inr (.inr (74 : Nat))), some (.inl i), none, none] [] (Av61, Bv61, Yv61, Kv61, Tv61)))
  refine ⟨by omega, m_count hM (show -2147483648 ≤ (sx xs (i + (1 : Int))) ∧ (sx xs (i + (1 : Int))) < 2147483648 from by omega) (fun nv61 => ?_)⟩
  have hM61 : MI (zu B 39 0 0) Y _ := MI_390 hM
  exact N _ _ _ _ _ _ _ (by omega) hI hM61

set_option maxRecDepth 10000 in
theorem l_loop {xs : Nat → Int32} {Ln : Nat} (hL : Ln ≤ 192) : ∀ (n : Nat) (i : Int) (x : Nat) (A B Y : zF) (K : Nat) (T : zT) (sz : Int), 0 ≤ i → i ≤ 196 → 4 * (x : Int) ≤ i → XI 0 sz A K T → MI B Y sz → 200 - i < (n : Int) → pvq xs Ln x 23 [some (.inr (.inr (900 : Nat))), some (.inr (.inr (0 : Nat))), some (.inr (.inr (39 : Nat))), some (.inr (.inr (74 : Nat))), some (.inl i), none, none] [] (A, B, Y, K, T) := by
  intro n
  induction n with
  | zero => intro i x A B Y K T sz h0 h196 h4 hI hM hm; exfalso; omega
  | succ n ih =>
    intro i x A B Y K T sz h0 h196 h4 hI hM hm
    have N : i + 4 ≤ (Ln : Int) → ∀ (x' : Nat) (A' B' Y' : zF) (K' : Nat) (T' : zT) (sz' : Int), x' ≤ x + 1 → XI 0 sz' A' K' T' → MI B' Y' sz' → pvq xs Ln x' 436 [some (.inr (.inr (900 : Nat))), some (.inr (.inr (0 : Nat))), some (.inr (.inr (39 : Nat))), some (.inr (.inr (74 : Nat))), some (.inl i), none, none] [] (A', B', Y', K', T') := by
      intro h1 x9 A9 B9 Y9 K9 T9 sz9 hx9 hI9 hM9
      refine pvq_of 2 [] rfl ?_
      show pvq xs Ln x9 23 [some (.inr (.inr (900 : Nat))), some (.inr (.inr (0 : Nat))), some (.inr (.inr (39 : Nat))), some (.inr (.inr (74 : Nat))), some (.inl (i + (4 : Int))), none, none] [] (A9, B9, Y9, K9, T9)
      exact ih (i + (4 : Int)) _ _ _ _ _ _ _ (by omega) (by omega) (by omega) hI9 hM9 (by omega)
    refine pvq_of 2 [] rfl ?_
    show pvq xs Ln x 26 [some (.inr (.inr (900 : Nat))), some (.inr (.inr (0 : Nat))), some (.inr (.inr (39 : Nat))), some (.inr (.inr (74 : Nat))), some (.inl i), none, none] [.inr (.inr (900 : Nat)), .inl i] (A, B, Y, K, T)
    refine pvq_len rfl ?_
    refine pvq_of 5 [] rfl ?_
    show ((-2147483648 ≤ i ∧ i < 2147483648) ∧ (-2147483648 ≤ ((Ln : Int) - (4 : Int)) ∧ ((Ln : Int) - (4 : Int)) < 2147483648) ∧ (((Ln : Int) - (4 : Int)) < i → pvq xs Ln x 443 [some (.inr (.inr (900 : Nat))), some (.inr (.inr (0 : Nat))), some (.inr (.inr (39 : Nat))), some (.inr (.inr (74 : Nat))), some (.inl i), none, none] [.inl (1 : Int)] (A, B, Y, K, T)) ∧ (i ≤ ((Ln : Int) - (4 : Int)) → pvq xs Ln x 35 [some (.inr (.inr (900 : Nat))), some (.inr (.inr (0 : Nat))), some (.inr (.inr (39 : Nat))), some (.inr (.inr (74 : Nat))), some (.inl i), none, none] [.inl i, .inr (.inr (900 : Nat))] (A, B, Y, K, T)))
    refine ⟨by omega, by omega, fun z62 => ?_, fun z62 => ?_⟩
    · skip
      exact pvq_ret rfl
    · skip
      refine pvq_rd rfl (by omega) (by omega) hL ?_
      have f63 := sx_r xs i
      refine pvq_of 3 [] rfl ?_
      show (∀ cv64 : Int, -2147483648 ≤ cv64 → cv64 < 2147483648 → ((-2147483648 ≤ cv64 ∧ cv64 < 2147483648) ∧ ((cv64 < (0 : Int) ∨ (8 : Int) < cv64) → pvq xs Ln x 436 [some (.inr (.inr (900 : Nat))), some (.inr (.inr (0 : Nat))), some (.inr (.inr (39 : Nat))), some (.inr (.inr (74 : Nat))), some (.inl i), none, none] [] (A, B, Y, K, T)) ∧ (cv64 = (0 : Int) → pvq xs Ln x 88 [some (.inr (.inr (900 : Nat))), some (.inr (.inr (0 : Nat))), some (.inr (.inr (39 : Nat))), some (.inr (.inr (74 : Nat))), some (.inl i), none, none] [] (A, B, Y, K, T)) ∧ (cv64 = (1 : Int) → pvq xs Ln x 157 [some (.inr (.inr (900 : Nat))), some (.inr (.inr (0 : Nat))), some (.inr (.inr (39 : Nat))), some (.inr (.inr (74 : Nat))), some (.inl i), none, none] [] (A, B, Y, K, T)) ∧ (cv64 = (2 : Int) → pvq xs Ln x 170 [some (.inr (.inr (900 : Nat))), some (.inr (.inr (0 : Nat))), some (.inr (.inr (39 : Nat))), some (.inr (.inr (74 : Nat))), some (.inl i), none, none] [] (A, B, Y, K, T)) ∧ (cv64 = (3 : Int) → pvq xs Ln x 219 [some (.inr (.inr (900 : Nat))), some (.inr (.inr (0 : Nat))), some (.inr (.inr (39 : Nat))), some (.inr (.inr (74 : Nat))), some (.inl i), none, none] [] (A, B, Y, K, T)) ∧ (cv64 = (4 : Int) → pvq xs Ln x 247 [some (.inr (.inr (900 : Nat))), some (.inr (.inr (0 : Nat))), some (.inr (.inr (39 : Nat))), some (.inr (.inr (74 : Nat))), some (.inl i), none, none] [] (A, B, Y, K, T)) ∧ (cv64 = (5 : Int) → pvq xs Ln x 275 [some (.inr (.inr (900 : Nat))), some (.inr (.inr (0 : Nat))), some (.inr (.inr (39 : Nat))), some (.inr (.inr (74 : Nat))), some (.inl i), none, none] [] (A, B, Y, K, T)) ∧ (cv64 = (6 : Int) → pvq xs Ln x 315 [some (.inr (.inr (900 : Nat))), some (.inr (.inr (0 : Nat))), some (.inr (.inr (39 : Nat))), some (.inr (.inr (74 : Nat))), some (.inl i), none, none] [] (A, B, Y, K, T)) ∧ (cv64 = (7 : Int) → pvq xs Ln x 343 [some (.inr (.inr (900 : Nat))), some (.inr (.inr (0 : Nat))), some (.inr (.inr (39 : Nat))), some (.inr (.inr (74 : Nat))), some (.inl i), none, none] [] (A, B, Y, K, T)) ∧ (cv64 = (8 : Int) → pvq xs Ln x 411 [some (.inr (.inr (900 : Nat))), some (.inr (.inr (0 : Nat))), some (.inr (.inr (39 : Nat))), some (.inr (.inr (74 : Nat))), some (.inl i), none, none] [] (A, B, Y, K, T)) ∧ True))
      intro cv64 wcv64a wcv64b
      refine ⟨by omega, fun z65 => ?_, fun z65 => ?_, fun z65 => ?_, fun z65 => ?_, fun z65 => ?_, fun z65 => ?_, fun z65 => ?_, fun z65 => ?_, fun z65 => ?_, fun z65 => ?_, trivial⟩
      · skip
        exact N (by omega) _ _ _ _ _ _ _ (by omega) hI hM
      · skip
        exact l_88 hL hI hM h0 (by omega) (by omega) (N (by omega))
      · skip
        exact l_157 hL hI hM h0 (by omega) (by omega) (N (by omega))
      · skip
        exact l_170 hL hI hM h0 (by omega) (by omega) (N (by omega))
      · skip
        exact l_219 hL hI hM h0 (by omega) (by omega) (N (by omega))
      · skip
        exact l_247 hL hI hM h0 (by omega) (by omega) (N (by omega))
      · skip
        exact l_275 hL hI hM h0 (by omega) (by omega) (N (by omega))
      · skip
        exact l_315 hL hI hM h0 (by omega) (by omega) (N (by omega))
      · skip
        exact l_343 hL hI hM h0 (by omega) (by omega) (N (by omega))
      · skip
        exact l_411 hL hI hM h0 (by omega) (by omega) (N (by omega))
theorem XI_0 : XI 0 0 (fun _ _ => 0) 1003 (fun _ => none) := by
  refine ⟨fun c j => ?_, fun j => (by decide : (0 : Int) + 0 ≤ 3000 ∧ (0 : Int) + 0 ≤ 3000 ∧ (0 : Int) + 0 ≤ 3000 ∧ (0 : Int) + 0 ≤ 3000), rfl, by decide, (fun j r e => by cases e), fun j hj => ?_, (fun e => absurd e (by decide)), fun _ j hj => ?_⟩
  · have key : ∀ (l : List (Nat × Option Nat × Int × Int)), (∀ q ∈ l, q.2.2.1 ≤ 0 ∧ 0 ≤ q.2.2.2) → (match crl l c j with
      | some p => p.1 ≤ (0 : Int) ∧ 0 ≤ p.2
      | none => True) := by
      intro l
      induction l with
      | nil => intro _; trivial
      | cons q l ih =>
        intro h
        unfold crl
        cases hb : (Nat.beq q.1 c && (match q.2.1 with
          | none => true
          | some k => Nat.beq k j)) with
        | true => exact h q List.mem_cons_self
        | false => exact ih (fun z hz => h z (List.mem_cons_of_mem _ hz))
    exact key crt (by decide)
  · have : (j : Int) < 0 := hj
    exfalso; omega
  · have : (j : Int) < 0 := hj
    exfalso; omega
theorem MI_0 : MI (fun _ _ => 0) (fun _ _ => 0) 0 := by
  have i0 : ir 0 := by decide
  exact ⟨(by decide : -9223372036854775808 ≤ (0 : Int) ∧ (0 : Int) < 9223372036854775808), Or.inl ⟨⟨fun j => (by decide : 0 ≤ (0 : Int) ∧ (0 : Int) < 65536), fun j => (by decide : 0 ≤ (0 : Int) ∧ (0 : Int) < 65536), fun j => ⟨i0, i0, i0, i0⟩, fun j => ⟨i0, i0, i0⟩⟩, ⟨fun j => Or.inl rfl, fun j => Or.inl rfl, fun j => Or.inl rfl, fun j => Or.inl rfl, fun k _ => (by decide : 0 ≤ (0 : Int) ∧ 0 ≤ (0 : Int) ∧ (0 : Int) + 0 ≤ 3000), Or.inl rfl⟩, ⟨rfl, by decide⟩, rfl, rfl, rfl, rfl⟩⟩
theorem zc_0 : pm_hA = zc (fun _ _ => 0, fun _ _ => 0, fun _ _ => 0, 1003, fun _ => none) := by
  rw [pg_A]
  have e : (fun _ _ => 0 : Nat → Nat → Int32) = fun i j => Int32.ofInt (zrd (fun _ _ => 0, fun _ _ => 0, fun _ _ => 0, 1003, fun _ => none) i j) := by
    funext i j
    rcases Nat.lt_or_ge i 39 with h | h
    · rw [zrd_lo h]; rfl
    · rw [zrd_hi h]; rfl
  unfold pg zc
  rw [e]
  rfl