/-! The model's parser: the tasks, one by one -/
section ROWS
variable {d : Nat} {A B0 B Y : zF} {K : Nat} {T : zT} {st vs : List zE} {cur op fr fc N F tp ow tk sc tm m on tn w a b c e : Int} {E ht rg bk o u fb pr owf : Nat → Int} {Q : zF → zF → zF → Nat → zT → Prop}
/-- the state without the code's ghost -/
def PB (B0 B Y : zF) (st : List zE) (op fr N F tp ow tk : Int) (o u fb pr owf : Nat → Int) : Prop :=
  FR B0 B ∧ mK B ∧ mY Y ∧ mT B ∧ ((B 39 10) = 0 ∧ (B 39 20) = op ∧ (B 39 7) = fr ∧ (B 39 38) = N ∧ (B 39 17) = F ∧ (B 39 13) = tp ∧ (B 39 16) = ow ∧ (B 39 6) = tk ∧ 0 ≤ N) ∧ mD B ∧ mO B ∧ mG B ∧ mX B ∧ skk B st ∧ (B 58 = o ∧ B 59 = u ∧ B 54 = fb ∧ B 55 = pr ∧ B 56 = owf)
theorem b_must {t : Int} (hd : 4 ≤ d) (h : PB B0 B Y st op fr N F tp ow tk o u fb pr owf) (htt : -2147483648 ≤ t ∧ t < 2147483648) (q0 : ∀ B', PF B0 B' Y N (st.length : Int) → Q A B' Y K T) (q1 : ∀ B' Y' f k, fr ≤ f → PB B0 B' Y' st op f N F tp ow k o u fb pr owf → Q A B' Y' K T) : pzV d 11 [.inr (.inr 39), .inl t] (A, B, Y, K, T) Q := by
  obtain ⟨a1, a2, a3, a4, ⟨f1, f2, f3, f4, f5, f6, f7, f8, f9⟩, a5, a6, a7, a8, a9, a10⟩ := h
  obtain ⟨t1, t2, t3, t4, t5, t6⟩ := id a4
  have hs := a9.1
  refine m_must hd a2 a3 a4 ⟨by omega, by omega⟩ htt (fun x x1 x2 => q0 _ ?_) (fun aa k f Y' z1 z2 g1 g2 g3 g4 g5 g6 => q1 _ _ f k (by omega) ?_)
  · exact ⟨FR_tr a1 (FR_rf _), a2, a3, a4, ⟨by show 0 ≤ x; omega, x2⟩, ⟨by show x ≠ 0; omega, ⟨by show 0 ≤ (B 39 38); omega, by show (B 39 38) ≤ N; omega⟩, ⟨by show 0 ≤ (B 39 58); omega, by show (B 39 58) ≤ _; omega, by have := a9.2.2; omega⟩⟩, a5, a6, a7, a8⟩
  · exact ⟨FR_tr a1 (FR_rf _), a2, g6, ⟨by show 0 ≤ f; omega, g2, rfl, g3, g4, g5⟩, ⟨f1, f2, rfl, f4, f5, f6, f7, rfl, f9⟩, a5, a6, a7, a8, a9, a10⟩
theorem PZ_E (h : PZ B0 B Y st vs cur op fr fc N F tp ow tk sc tm E ht rg bk) : 0 ≤ E F.toNat := by
  obtain ⟨-, -, -, -, -, -, -, -, -, -, hC, -⟩ := h
  obtain ⟨⟨n1, n2, n3, n4⟩, -, -, -, -, -, ⟨h7, h8, -⟩, -⟩ := hC
  have key : ∀ f : Nat, (f : Int) ≤ F → 0 ≤ E f := by
    intro f
    induction f with
    | zero => intro _; exact h8
    | succ f ih =>
      intro hf
      have := ih (by omega)
      have := h7 f (by omega)
      omega
  exact key F.toNat (by omega)
theorem WT_st (h : WT ((w, a, b, c, e) :: st) cur op) (hw : ¬ (w = 1 ∨ w = 2)) : ∃ c1 o1, tt w a b (st.length : Int) cur op c1 o1 ∧ WT st c1 o1 ∧ ((w = 3 ∨ w = 4) → st = pg1) := by
  obtain ⟨c1, o1, t1, t2, t3⟩ := h
  exact ⟨c1, o1, t1, t3.resolve_left hw, t2⟩
set_option maxRecDepth 100000 in
set_option maxHeartbeats 400000 in
theorem h_functionEnd (hd : 8 ≤ d) (h : PZ B0 B Y pg1 pg1 cur 0 fr fr N F tp ow tk sc tm E ht rg bk) (hc1 : cur = 1) (hF : F < 6) (hfb : (1 ≤ (B 54) F.toNat ∧ (B 54) F.toNat ≤ tm) ∧ rg ((B 54) F.toNat).toNat = F ∧ ht ((B 54) F.toNat).toNat = 0 ∧ bk ((B 54) F.toNat).toNat = 0) (hpr : 0 ≤ (B 55) F.toNat ∧ (B 55) F.toNat ≤ ow) (hc : -2147483648 ≤ c ∧ c < 2147483648) (hp : N + 2 ≤ 3 * fr + 2) (hm : 64 * (3001 - fr) + 5 ≤ m) (hq : HQ B0 m A K T Q) : pzV d 27 [.inr (.inr 39), .inl F, .inl 0, .inl c] (A, B, Y, K, T) Q := by
  obtain ⟨p1, p2, p3, p4, p5, p6, p7, p8⟩ := PZ_tk h
  have e := PZ_eq h
  have sF : ∀ B1, PZ B0 B1 Y pg1 pg1 cur 0 fr fr N F tp ow tk sc tm E ht rg bk → SM B B1 → pq d 27 23 [some (.inr (.inr 39)), some (.inl F), some (.inl 0), some (.inl c)] [] (A, B1, Y, K, T) (qV Q) := by
    intro B1 h1 sm1
    have j43f : ∀ B2 Y2 on tn, PF B0 B2 Y2 on tn → pq d 27 43 [some (.inr (.inr 39)), some (.inl F), some (.inl 0), some (.inl c)] [] (A, B2, Y2, K, T) (qV Q) := by
      intro B2 Y2 on tn f2
      have g := PF_eq f2
      refine pq_of 23 [] [] ?_
      show ((0 ≤ F ∧ F < (6 : Int)) ∧ (((0 : Int) = 0 ∨ (0 : Int) = 1) ∧ ((-2147483648 ≤ (B2 39 10) ∧ (B2 39 10) < 2147483648) ∧ ((B2 39 10) ≠ (0 : Int) → Q A (zu (zu (zu (zu B2 39 20 (0 : Int)) 56 (F).toNat (B2 39 16)) 39 37 (0 : Int)) 39 17 (B2 39 17)) Y2 K T) ∧ ((B2 39 10) = (0 : Int) → Q A (zu (zu (zu (zu B2 39 20 (0 : Int)) 56 (F).toNat (B2 39 16)) 39 37 (0 : Int)) 39 17 ((B2 39 17) + (1 : Int))) Y2 K T))))
      refine ⟨by omega, by omega, by omega, fun _ => hq.1 _ _ on tn ?_, fun z => absurd z (by omega)⟩
      obtain ⟨b1, b2, b3, b4, b5, b6, b7, b8, b9, b10⟩ := f2
      exact ⟨FR_tr b1 (FR_rf _), b2, b3, b4, b5, b6, b7, b8, b9, ⟨b10.1, b10.2.1, Or.inl rfl, b10.2.2.2⟩⟩
    obtain ⟨-, -, -, q54, q55, -⟩ := SM_k sm1
    obtain ⟨a1, a2, a3, a4, ⟨f1, f2, f3, f4, f5, f6, f7, f8, f9, f10, f11⟩, a5, a6, a7, a8, a9, a10, a11⟩ := h1
    have hPB : PB B0 (zu (zu (zu (zu B1 58 (B1 39 38).toNat 12) 59 (B1 39 38).toNat 0) 60 (B1 39 38).toNat 0) 39 38 ((B1 39 38) + 1)) Y pg1 0 fr (N + 1) F tp ow tk (zp (B1 58) N.toNat 12) (zp (B1 59) N.toNat 0) (B1 54) (B1 55) (B1 56) := by
      rw [f4]
      exact ⟨FR_tr a1 (FR_rf _), a2, a3, a4, ⟨f1, f2, f3, rfl, f5, f6, f7, f8, by omega⟩, a5, a6, a7, a8, a9, rfl, rfl, rfl, rfl, rfl⟩
    refine pq_of 11 [(43, [])] [] ?_
    show (0 < d ∧ pzV (d - 1) 15 [.inr (.inr (39 : Nat)), .inl (12 : Int), .inl (0 : Int), .inl (0 : Int)] (A, B1, Y, K, T) (fun Av1 Bv1 Yv1 Kv1 Tv1 => (0 < d ∧ pzV (d - 1) 11 [.inr (.inr (39 : Nat)), .inl (59 : Int)] (Av1, Bv1, Yv1, Kv1, Tv1) (fun Av2 Bv2 Yv2 Kv2 Tv2 => (0 < d ∧ pzV (d - 1) 11 [.inr (.inr (39 : Nat)), .inl (125 : Int)] (Av2, Bv2, Yv2, Kv2, Tv2) (fun Av3 Bv3 Yv3 Kv3 Tv3 => pq d 27 43 [some (.inr (.inr (39 : Nat))), some (.inl F), some (.inl (0 : Int)), some (.inl c)] [] (Av3, Bv3, Yv3, Kv3, Tv3) (qV Q)))))))
    refine ⟨by omega, m_say (by omega) (by omega) ⟨by omega, b_must (by omega) hPB (by omega) (fun B2 f2 => ⟨by omega, f_must (by omega) f2 (by omega) (fun B3 f3 => j43f B3 Y _ _ f3)⟩) (fun B2 Y2 r2 k2 g2 h2 => ⟨by omega, b_must (by omega) h2 (by omega) (fun B3 f3 => j43f B3 Y2 _ _ f3) (fun B3 Y3 r3 k3 g3 h3 => ?_)⟩)⟩⟩
    obtain ⟨c1, c2, c3, c4, ⟨d1, d2, d3, d4, d5, d6, d7, d8, d9⟩, c5, c6, c7, c8, c9, c10, c11, c12, c13, c14⟩ := h3
    refine pq_of 23 [] [] ?_
    show ((0 ≤ F ∧ F < (6 : Int)) ∧ (((0 : Int) = 0 ∨ (0 : Int) = 1) ∧ ((-2147483648 ≤ (B3 39 10) ∧ (B3 39 10) < 2147483648) ∧ ((B3 39 10) ≠ (0 : Int) → Q A (zu (zu (zu (zu B3 39 20 (0 : Int)) 56 (F).toNat (B3 39 16)) 39 37 (0 : Int)) 39 17 (B3 39 17)) Y3 K T) ∧ ((B3 39 10) = (0 : Int) → Q A (zu (zu (zu (zu B3 39 20 (0 : Int)) 56 (F).toNat (B3 39 16)) 39 37 (0 : Int)) 39 17 ((B3 39 17) + (1 : Int))) Y3 K T))))
    refine ⟨by omega, by omega, by omega, fun z => absurd d1 z, fun _ => ?_⟩
    have hct : CT (B1 58) (B1 59) N F tp fr tm (B1 54) (B1 55) (zp (B1 56) F.toNat ow) E (pnd pg1) ht rg bk := CT_fn a10 (fun f hf => ⟨rfl, rfl, zp_ne _ _ (by omega)⟩)
    obtain ⟨k1, k2⟩ := CT_fend (a := 0) (fr' := r3) (pn' := pnd pg1) hct hF (by omega) (fun _ z => z) ⟨(1, 0, 0, 0, 0), List.mem_cons_self, Or.inl rfl, rfl⟩ (by rw [f10]; omega) (by rw [q54]; exact hfb) (by rw [q55, zp_at]; omega)
    have c4' := c4
    obtain ⟨u1, u2, u3, u4, u5, u6⟩ := c4'
    refine hq.2.1 _ Y3 pg1 0 0 r3 (N + 1) (F + 1) tp ow k3 (B3 39 42) tm (zp E (F.toNat + 1) r3) (zp ht (N.toNat + 1) 0) (zp rg (N.toNat + 1) (F + 1)) bk ⟨FR_tr c1 (FR_rf _), c2, c3, c4, ⟨d1, rfl, d3, d4, by show (B3 39 17) + 1 = F + 1; omega, d6, d7, d8, rfl, k2, by show r3 ≤ (B3 39 5); omega⟩, c5, c6, ⟨by show 0 ≤ (B3 39 17) + 1 ∧ (B3 39 17) + 1 ≤ 6; omega, c7.2⟩, ⟨c8.1, c8.2.1, Or.inl rfl, c8.2.2.2⟩, c9, ?_, TD_1⟩ WT_1 ?_ (by omega) ?_
    · show CT (B3 58) (B3 59) (N + 1) (F + 1) tp r3 tm (B3 54) (B3 55) (zp (B3 56) F.toNat (B3 39 16)) _ (pnd pg1) _ _ _
      rw [c10, c11, c12, c13, c14, d7]
      exact k1
    · show N + 1 + (1 + 0) ≤ 3 * r3 + 2
      omega
    · show 64 * (3001 - r3) + (4 + 0) < m
      omega
  refine pzV_of 12 [(23, [])] [] ?_
  show ((-2147483648 ≤ (B 39 42) ∧ (B 39 42) < 2147483648) ∧ ((B 39 42) = (0 : Int) → pq d 27 23 [some (.inr (.inr (39 : Nat))), some (.inl F), some (.inl (0 : Int)), some (.inl c)] [] (A, B, Y, K, T) (qV Q)) ∧ ((B 39 42) ≠ (0 : Int) → ((0 ≤ F ∧ F < (6 : Int)) ∧ ((-2147483648 ≤ (B 49 (F).toNat) ∧ (B 49 (F).toNat) < 2147483648) ∧ ((B 49 (F).toNat) ≠ (0 : Int) → pq d 27 23 [some (.inr (.inr (39 : Nat))), some (.inl F), some (.inl (0 : Int)), some (.inl c)] [] (A, B, Y, K, T) (qV Q)) ∧ ((B 49 (F).toNat) = (0 : Int) → (0 < d ∧ pzV (d - 1) 12 [.inr (.inr (39 : Nat)), .inl (8 : Int), .inl c] (A, B, Y, K, T) (fun Av1 Bv1 Yv1 Kv1 Tv1 => pq d 27 23 [some (.inr (.inr (39 : Nat))), some (.inl F), some (.inl (0 : Int)), some (.inl c)] [] (Av1, Bv1, Yv1, Kv1, Tv1) (qV Q))))))))
  obtain ⟨-, -, -, -, -, -, -, hG, -⟩ := id h
  have s49 := hG.2.2.1 F.toNat
  exact ⟨by omega, fun _ => sF B h (SM_rf B), fun _ => ⟨by omega, by omega, fun _ => sF B h (SM_rf B), fun _ => ⟨by omega, z_forbid h (by omega) hc (fun B1 h1 s1 => sF B1 h1 s1)⟩⟩⟩
theorem PZ_bgo (h : PZ B0 B Y st vs cur op fr fc N F tp ow tk sc tm E ht rg bk) (hc : cur = 0) (htm : tm < N) (h13 : (B 58) (N.toNat - 1) = 13) (hN : 2 ≤ N) {b' : Int} (hb : (1 ≤ b ∧ b ≤ tm) ∧ ht b.toNat = 0 ∧ rg b.toNat = F ∧ bk b.toNat = 0) : PZ B0 (zu (zu (zu (zu B 58 (B 39 38).toNat 15) 59 (B 39 38).toNat b) 60 (B 39 38).toNat b') 39 38 ((B 39 38) + 1)) Y st vs 0 op fr fc (N + 1) F tp ow tk sc tm E (zp ht (N.toNat + 1) 0) (zp rg (N.toNat + 1) F) (zp bk N.toNat 1) := by
  obtain ⟨a1, a2, a3, a4, ⟨f1, f2, f3, f4, f5, f6, f7, f8, f9, f10, f11⟩, a5, a6, a7, a8, a9, a10, a11⟩ := h
  obtain ⟨⟨n1, n2, n3, n4⟩, -⟩ := id a10
  obtain ⟨c1, c2⟩ := CT_bgo (fr' := fc) a10 (Int.le_refl _) htm h13 hN (f10.trans hc) hb
  rw [f4]
  refine ⟨FR_tr a1 (FR_rf _), a2, a3, a4, ⟨f1, f2, f3, rfl, f5, f6, f7, f8, f9, c2, f11⟩, a5, a6, a7, a8, a9, c1, ?_⟩
  exact TD_mono (o' := zp (B 58) N.toNat 15) a11 (Int.le_refl _) (by omega) (Int.le_refl _) (Int.le_refl _) n4 (fun j hj => zp_ne _ _ (by omega)) (fun j _ hj => ⟨zp_ne _ _ (by omega), zp_ne _ _ (by omega)⟩) (fun j hj => zp_ne _ _ (by omega))
theorem h_pend (hd : 4 ≤ d) (h : PZ B0 B Y [] [(2, a, b, c, e)] cur op fr fr N F tp ow tk sc tm E ht rg bk) (hop : op = 0) (hp : N ≤ 9002) (hq : HQ B0 m A K T Q) : pq d 23 68 [some (.inr (.inr 39)), some (.inl 2), some (.inl a), some (.inl b), some (.inl c), none] [] (A, B, Y, K, T) (qV Q) := by
  obtain ⟨p1, p2, p3, p4, p5, p6, p7, p8⟩ := PZ_tk h
  have eq := PZ_eq h
  refine pq_of 14 [] [] ?_
  show ((-2147483648 ≤ (B 39 6) ∧ (B 39 6) < 2147483648) ∧ (-2147483648 ≤ (12 : Int) ∧ (12 : Int) < 2147483648) ∧ ((B 39 6) = (12 : Int) → (0 < d ∧ pzV (d - 1) 15 [.inr (.inr (39 : Nat)), .inl (16 : Int), .inl (0 : Int), .inl (0 : Int)] (A, B, Y, K, T) (fun Av1 Bv1 Yv1 Kv1 Tv1 => Q Av1 Bv1 Yv1 Kv1 Tv1))) ∧ ((B 39 6) ≠ (12 : Int) → (0 < d ∧ pzV (d - 1) 9 [.inr (.inr (39 : Nat)), .inl (1 : Int)] (A, B, Y, K, T) (fun Av2 Bv2 Yv2 Kv2 Tv2 => (0 < d ∧ pzV (d - 1) 15 [.inr (.inr (39 : Nat)), .inl (16 : Int), .inl (0 : Int), .inl (0 : Int)] (Av2, Bv2, Yv2, Kv2, Tv2) (fun Av3 Bv3 Yv3 Kv3 Tv3 => Q Av3 Bv3 Yv3 Kv3 Tv3))))))
  refine ⟨by omega, by omega, fun _ => ⟨by omega, m_say (by omega) (by omega) (hq.2.2 _ _ ?_)⟩, fun _ => ⟨by omega, z_fail h (by omega) (by omega) (fun B1 f1 _ => ⟨by omega, f_say f1 (by omega) (fun B2 f2 => hq.1 _ _ _ _ f2)⟩)⟩⟩
  obtain ⟨a1, a2, a3, a4, ⟨f1, f2, f3, f4, f5, f6, f7, f8, f9, f10, f11⟩, a5, a6, a7, a8, a9, a10, a11⟩ := h
  have k1 := CT_done (a := 0) a10 (fun p hp => by
    obtain ⟨x, hx, hx2⟩ := hp
    rw [List.mem_singleton.mp hx] at hx2
    have : (2 : Int) = 1 ∨ (2 : Int) = 8 ∨ (2 : Int) = 9 ∨ (2 : Int) = 11 := hx2.1
    omega) (by omega)
  refine ⟨FR_tr a1 (FR_rf _), a3, ⟨f1, a9.1, a8.1, by show (B 39 38) + 1 ≤ 12000; omega⟩, a5, a7, a6, a8, zp E (F.toNat + 1) fr, ht, rg, bk, ?_⟩
  show FI (zp (B 58) (B 39 38).toNat 16) (zp (B 59) (B 39 38).toNat 0) ((B 39 38) + 1) (B 39 17) (B 39 13) (B 54) (B 55) (B 56) _ _ _ _
  rw [f4, f5, f6]
  exact k1
theorem PZ_one (h : PZ B0 B Y st [(1, 0, b, c, e)] cur op fr fc N F tp ow tk sc tm E ht rg bk) : PZ B0 B Y st pg1 cur op fr fc N F tp ow tk sc tm E ht rg bk := by
  obtain ⟨a1, a2, a3, a4, a5, a6, a7, a8, a9, a10, a11, a12⟩ := h
  refine ⟨a1, a2, a3, a4, a5, a6, a7, a8, a9, a10, CT_pn a11 (fun p hp => ?_), TD_1⟩
  obtain ⟨x, hx, hx2⟩ := hp
  rw [List.mem_singleton.mp hx] at hx2
  exact ⟨(1, 0, 0, 0, 0), List.mem_cons_self, hx2⟩
set_option maxRecDepth 100000 in
set_option maxHeartbeats 400000 in
theorem t_1 (hd : 20 ≤ d) (h : PZ B0 B Y st ((1, a, b, c, e) :: st) cur op fr fr N F tp ow tk sc tm E ht rg bk) (hw : WT ((1, a, b, c, e) :: st) cur op) (ho : op ≤ 10) (hp : N + PD ((1, a, b, c, e) :: st) ≤ 3 * fr + 2) (hm : 64 * (3001 - fr) + SW ((1, a, b, c, e) :: st) ≤ m) (hq : HQ B0 m A K T Q) : pq d 23 60 [some (.inr (.inr 39)), some (.inl 1), some (.inl a), some (.inl b), some (.inl c), none] [] (A, B, Y, K, T) (qV Q) := by
  obtain ⟨p1, p2, p3, p4, p5, p6, p7, p8⟩ := PZ_tk h
  have eq := PZ_eq h
  have hE := PZ_E h
  have hx := h.2.2.2.2.2.2.2.2.2.2.2 _ List.mem_cons_self
  rw [PD_1] at hp
  rw [SW_1] at hm
  have pd0 := PD_0 st
  obtain ⟨c1, o1, t1, t2, t3⟩ := hw
  obtain ⟨⟨t0, e1, e2⟩, -, -⟩ := tx_1 t1
  subst e1
  subst e2
  obtain rfl : st = [] := List.eq_nil_of_length_eq_zero (by omega)
  have ha : a = 0 := hx.1 rfl
  subst ha
  have h' : PZ B0 B Y [] pg1 0 0 fr fr N F tp ow tk sc tm E ht rg bk := PZ_one h
  refine pq_of 5 [] [] ?_
  show (0 < d ∧ pzV (d - 1) 25 [.inr (.inr (39 : Nat)), .inl (0 : Int)] (A, B, Y, K, T) (fun Av1 Bv1 Yv1 Kv1 Tv1 => Q Av1 Bv1 Yv1 Kv1 Tv1))
  exact ⟨by omega, h_told (by omega) h' (by have : PD [] = 0 := rfl; omega) (by have : SW [] = 0 := rfl; omega) hq⟩
set_option maxRecDepth 100000 in
set_option maxHeartbeats 400000 in
theorem t_2 (hd : 20 ≤ d) (h : PZ B0 B Y st ((2, a, b, c, e) :: st) cur op fr fr N F tp ow tk sc tm E ht rg bk) (hw : WT ((2, a, b, c, e) :: st) cur op) (ho : op ≤ 10) (hp : N + PD ((2, a, b, c, e) :: st) ≤ 3 * fr + 2) (hm : 64 * (3001 - fr) + SW ((2, a, b, c, e) :: st) ≤ m) (hq : HQ B0 m A K T Q) : pq d 23 68 [some (.inr (.inr 39)), some (.inl 2), some (.inl a), some (.inl b), some (.inl c), none] [] (A, B, Y, K, T) (qV Q) := by
  obtain ⟨p1, p2, p3, p4, p5, p6, p7, p8⟩ := PZ_tk h
  have eq := PZ_eq h
  have hE := PZ_E h
  have hx := h.2.2.2.2.2.2.2.2.2.2.2 _ List.mem_cons_self
  rw [PD_2] at hp
  rw [SW_2] at hm
  have pd0 := PD_0 st
  obtain ⟨c1, o1, t1, t2, t3⟩ := hw
  obtain ⟨⟨t0, e1, e2⟩, -, -⟩ := tx_2 t1
  subst e1
  subst e2
  obtain rfl : st = [] := List.eq_nil_of_length_eq_zero (by omega)
  exact h_pend (by omega) h rfl (by have : PD [] = 0 := rfl; omega) hq
set_option maxRecDepth 100000 in
set_option maxHeartbeats 400000 in
theorem t_3 (hd : 20 ≤ d) (h : PZ B0 B Y st ((3, a, b, c, e) :: st) cur op fr fr N F tp ow tk sc tm E ht rg bk) (hw : WT ((3, a, b, c, e) :: st) cur op) (ho : op ≤ 10) (hp : N + PD ((3, a, b, c, e) :: st) ≤ 3 * fr + 2) (hm : 64 * (3001 - fr) + SW ((3, a, b, c, e) :: st) ≤ m) (hq : HQ B0 m A K T Q) : pq d 23 93 [some (.inr (.inr 39)), some (.inl 3), some (.inl a), some (.inl b), some (.inl c), none] [] (A, B, Y, K, T) (qV Q) := by
  obtain ⟨p1, p2, p3, p4, p5, p6, p7, p8⟩ := PZ_tk h
  have eq := PZ_eq h
  have hE := PZ_E h
  have hx := h.2.2.2.2.2.2.2.2.2.2.2 _ List.mem_cons_self
  rw [PD_3] at hp
  rw [SW_3] at hm
  have pd0 := PD_0 st
  obtain ⟨c1, o1, t1, wt, t2⟩ := WT_st hw (by omega)
  obtain ⟨t0, ec, eo⟩ := tx_3 t1
  rw [ec, eo] at wt
  have wl := WT_len wt
  replace h := PZ_drop h (by simp)
  obtain ⟨⟨ra, rb, rF⟩, r2, r3⟩ := hx.2.1 (Or.inl rfl)
  have st1 := t2 (Or.inl rfl)
  subst st1
  have l1 : ((pg1.length : Nat) : Int) = 1 := rfl
  obtain ⟨t3, t4, t5⟩ := t0
  subst t4
  subst t5
  refine pq_of 18 [] [] ?_
  show (0 < d ∧ pzV (d - 1) 11 [.inr (.inr (39 : Nat)), .inl (7 : Int)] (A, B, Y, K, T) (fun Av1 Bv1 Yv1 Kv1 Tv1 => (0 < d ∧ pzV (d - 1) 20 [.inr (.inr (39 : Nat)), .inl (4 : Int), .inl a, .inl b, .inl (B 39 7), .inl (0 : Int)] (Av1, Bv1, Yv1, Kv1, Tv1) (fun Av2 Bv2 Yv2 Kv2 Tv2 => (0 < d ∧ pzV (d - 1) 21 [.inr (.inr (39 : Nat)), .inl (17 : Int)] (Av2, Bv2, Yv2, Kv2, Tv2) (fun Av3 Bv3 Yv3 Kv3 Tv3 => Q Av3 Bv3 Yv3 Kv3 Tv3))))))
  refine ⟨by omega, z_must (by omega) h (by omega) (by omega) (fun B1 f1 => ⟨by omega, f_wait f1 (by omega) (fun B2 f2 => ⟨by omega, f_plain (by omega) f2 (by omega) (fun B3 f3 => hq.1 _ _ _ _ f3)⟩)⟩) (fun B1 Y1 f1 k1 z g1 g2 h1 s1 => ⟨by omega, z_wait h1 (by show 1 < 2000; omega) ?_ (fun B2 h2 s2 => ⟨by omega, z_plain (by omega) h2 (by show 2 < 2000; omega) (td_0 (by omega)) (fun B3 h3 s3 => ?_)⟩)⟩)⟩
  · obtain ⟨-, -, -, x54, x55, -⟩ := SM_k s1
    refine ⟨?_, fun _ => ⟨⟨ra, rb, rF⟩, by rw [x54]; exact r2, by rw [x55]; exact r3⟩, ?_, ?_, ?_, ?_, ?_, fun _ => by omega, ?_, ?_, ?_, ?_, ?_, ?_⟩ <;> (intro z; omega)
  · have := g2 (by omega)
    exact hq.2.1 _ _ _ _ _ _ _ _ _ _ _ _ _ _ _ _ _ h3 (WT_c2 (tt_17 ⟨by show (1 : Int) ≤ 2; omega, by show (2 : Int) ≤ _; omega, by omega, by omega⟩) (WT_c2 (cur := 0 + 1) (op := 0) (tt_4 ⟨rfl, rfl, rfl⟩) WT_1 rfl rfl (fun _ => rfl)) rfl rfl) (by show N + (0 + (1 + (1 + 0))) ≤ _; have : PD pg1 = 1 := rfl; omega) (by omega) (by show 64 * (3001 - f1) + (19 + (1 + (4 + 0))) < m; have : SW pg1 = 4 := rfl; omega)
set_option maxRecDepth 100000 in
set_option maxHeartbeats 400000 in
theorem t_4 (hd : 20 ≤ d) (h : PZ B0 B Y st ((4, a, b, c, e) :: st) cur op fr fr N F tp ow tk sc tm E ht rg bk) (hw : WT ((4, a, b, c, e) :: st) cur op) (ho : op ≤ 10) (hp : N + PD ((4, a, b, c, e) :: st) ≤ 3 * fr + 2) (hm : 64 * (3001 - fr) + SW ((4, a, b, c, e) :: st) ≤ m) (hq : HQ B0 m A K T Q) : pq d 23 124 [some (.inr (.inr 39)), some (.inl 4), some (.inl a), some (.inl b), some (.inl c), none] [] (A, B, Y, K, T) (qV Q) := by
  obtain ⟨p1, p2, p3, p4, p5, p6, p7, p8⟩ := PZ_tk h
  have eq := PZ_eq h
  have hE := PZ_E h
  have hx := h.2.2.2.2.2.2.2.2.2.2.2 _ List.mem_cons_self
  rw [PD_4] at hp
  rw [SW_4] at hm
  have pd0 := PD_0 st
  obtain ⟨c1, o1, t1, wt, t2⟩ := WT_st hw (by omega)
  obtain ⟨t0, ec, eo⟩ := tx_4 t1
  rw [ec, eo] at wt
  have wl := WT_len wt
  replace h := PZ_drop h (by simp)
  obtain ⟨⟨ra, rb, rF⟩, r2, r3⟩ := hx.2.1 (Or.inr rfl)
  have ra : a = F := ra
  have rb : b = 0 := rb
  have st1 := t2 (Or.inr rfl)
  subst st1
  have l1 : PD pg1 = 1 := rfl
  have l2 : SW pg1 = 4 := rfl
  have g1 : N + 2 ≤ 3 * fr + 2 := by omega
  have g2 : 64 * (3001 - fr) + 5 ≤ m := by omega
  subst ra
  subst rb
  obtain ⟨t3, t4, t5⟩ := t0
  subst t5
  refine pq_of 7 [] [] ?_
  show (0 < d ∧ pzV (d - 1) 27 [.inr (.inr (39 : Nat)), .inl a, .inl (0 : Int), .inl c] (A, B, Y, K, T) (fun Av1 Bv1 Yv1 Kv1 Tv1 => Q Av1 Bv1 Yv1 Kv1 Tv1))
  exact ⟨by omega, h_functionEnd (by omega) h t4 rF r2 r3 (hx.2.2.2.2.2.2.2.1 (Or.inl rfl)) g1 g2 hq⟩
set_option maxRecDepth 100000 in
set_option maxHeartbeats 400000 in
theorem t_5 (hd : 20 ≤ d) (h : PZ B0 B Y st ((5, a, b, c, e) :: st) cur op fr fr N F tp ow tk sc tm E ht rg bk) (hw : WT ((5, a, b, c, e) :: st) cur op) (ho : op ≤ 10) (hp : N + PD ((5, a, b, c, e) :: st) ≤ 3 * fr + 2) (hm : 64 * (3001 - fr) + SW ((5, a, b, c, e) :: st) ≤ m) (hq : HQ B0 m A K T Q) : pq d 23 135 [some (.inr (.inr 39)), some (.inl 5), some (.inl a), some (.inl b), some (.inl c), none] [] (A, B, Y, K, T) (qV Q) := by
  obtain ⟨p1, p2, p3, p4, p5, p6, p7, p8⟩ := PZ_tk h
  have eq := PZ_eq h
  have hE := PZ_E h
  have hx := h.2.2.2.2.2.2.2.2.2.2.2 _ List.mem_cons_self
  rw [PD_5] at hp
  rw [SW_5] at hm
  have pd0 := PD_0 st
  obtain ⟨c1, o1, t1, wt, t2⟩ := WT_st hw (by omega)
  obtain ⟨t0, ec, eo⟩ := tx_5 t1
  rw [ec, eo] at wt
  have wl := WT_len wt
  replace h := PZ_drop h (by simp)
  obtain ⟨t3, t4, t5, t6⟩ := t0
  have hT := h.2.2.2.1
  refine pq_of 10 [] [] ?_
  show (0 < d ∧ pzI (d - 1) 28 [.inr (.inr (39 : Nat))] (A, B, Y, K, T) (fun nv1 Av1 Bv1 Yv1 Kv1 Tv1 => ((-2147483648 ≤ nv1 ∧ nv1 < 2147483648) ∧ (nv1 ≠ (0 : Int) → (0 < d ∧ pzV (d - 1) 21 [.inr (.inr (39 : Nat)), .inl (5 : Int)] (Av1, Bv1, Yv1, Kv1, Tv1) (fun Av2 Bv2 Yv2 Kv2 Tv2 => (0 < d ∧ pzV (d - 1) 29 [.inr (.inr (39 : Nat))] (Av2, Bv2, Yv2, Kv2, Tv2) (fun Av3 Bv3 Yv3 Kv3 Tv3 => Q Av3 Bv3 Yv3 Kv3 Tv3))))) ∧ (nv1 = (0 : Int) → Q Av1 Bv1 Yv1 Kv1 Tv1))))
  refine ⟨by omega, m_begins hT (fun n n1 n2 => ⟨by omega, fun z => ⟨by omega, z_plain (by omega) h (by omega) (td_0 (by omega)) (fun B1 h1 s1 => ⟨by omega, h_statement (by omega) h1 (by omega) t5 (WT_c2 (tt_5 (by omega)) wt rfl rfl) (by simp only [List.length_cons, true_and, and_true]; omega) (by omega) (by first | omega | (simp only [PD_1, SW_1, PD_2, SW_2, PD_3, SW_3, PD_4, SW_4, PD_5, SW_5, PD_6, SW_6, PD_7, SW_7, PD_8, SW_8, PD_9, SW_9, PD_10, SW_10, PD_11, SW_11, PD_12, SW_12, PD_13, SW_13, PD_14, SW_14, PD_15, SW_15, PD_16, SW_16, PD_17, SW_17, PD_18, SW_18, PD_19, SW_19, PD_20, SW_20, PD_21, SW_21, PD_22, SW_22, PD_23, SW_23, PD_24, SW_24, PD_25, SW_25, PD_26, SW_26, PD_27, SW_27, PD_28, SW_28, PD_29, SW_29]; omega)) (by first | omega | (simp only [PD_1, SW_1, PD_2, SW_2, PD_3, SW_3, PD_4, SW_4, PD_5, SW_5, PD_6, SW_6, PD_7, SW_7, PD_8, SW_8, PD_9, SW_9, PD_10, SW_10, PD_11, SW_11, PD_12, SW_12, PD_13, SW_13, PD_14, SW_14, PD_15, SW_15, PD_16, SW_16, PD_17, SW_17, PD_18, SW_18, PD_19, SW_19, PD_20, SW_20, PD_21, SW_21, PD_22, SW_22, PD_23, SW_23, PD_24, SW_24, PD_25, SW_25, PD_26, SW_26, PD_27, SW_27, PD_28, SW_28, PD_29, SW_29]; omega)) hq⟩)⟩, fun z => ?_⟩)⟩
  exact hq.2.1 _ _ _ _ _ _ _ _ _ _ _ _ _ _ _ _ _ h (by rw [t5]; exact wt) (by omega) (by omega) (by omega)
set_option maxRecDepth 100000 in
set_option maxHeartbeats 400000 in
theorem t_6 (hd : 20 ≤ d) (h : PZ B0 B Y st ((6, a, b, c, e) :: st) cur op fr fr N F tp ow tk sc tm E ht rg bk) (hw : WT ((6, a, b, c, e) :: st) cur op) (ho : op ≤ 10) (hp : N + PD ((6, a, b, c, e) :: st) ≤ 3 * fr + 2) (hm : 64 * (3001 - fr) + SW ((6, a, b, c, e) :: st) ≤ m) (hq : HQ B0 m A K T Q) : pq d 23 155 [some (.inr (.inr 39)), some (.inl 6), some (.inl a), some (.inl b), some (.inl c), none] [] (A, B, Y, K, T) (qV Q) := by
  obtain ⟨p1, p2, p3, p4, p5, p6, p7, p8⟩ := PZ_tk h
  have eq := PZ_eq h
  have hE := PZ_E h
  have hx := h.2.2.2.2.2.2.2.2.2.2.2 _ List.mem_cons_self
  rw [PD_6] at hp
  rw [SW_6] at hm
  have pd0 := PD_0 st
  obtain ⟨c1, o1, t1, wt, t2⟩ := WT_st hw (by omega)
  obtain ⟨t0, ec, eo⟩ := tx_6 t1
  rw [ec, eo] at wt
  have wl := WT_len wt
  replace h := PZ_drop h (by simp)
  obtain ⟨t3, t4, t5, t6⟩ := t0
  subst t5
  refine pq_of 8 [] [] ?_
  show Q A (zu B 39 20 ((B 39 20) - (1 : Int))) Y K T
  have h2 := PZ_open h ((B 39 20) - 1)
  rw [eq.2.1] at h2 ⊢
  exact hq.2.1 _ _ _ _ _ _ _ _ _ _ _ _ _ _ _ _ _ h2 wt (by omega) (by omega) (by omega)
set_option maxRecDepth 100000 in
set_option maxHeartbeats 400000 in
theorem t_7 (hd : 20 ≤ d) (h : PZ B0 B Y st ((7, a, b, c, e) :: st) cur op fr fr N F tp ow tk sc tm E ht rg bk) (hw : WT ((7, a, b, c, e) :: st) cur op) (ho : op ≤ 10) (hp : N + PD ((7, a, b, c, e) :: st) ≤ 3 * fr + 2) (hm : 64 * (3001 - fr) + SW ((7, a, b, c, e) :: st) ≤ m) (hq : HQ B0 m A K T Q) : pq d 23 168 [some (.inr (.inr 39)), some (.inl 7), some (.inl a), some (.inl b), some (.inl c), none] [] (A, B, Y, K, T) (qV Q) := by
  obtain ⟨p1, p2, p3, p4, p5, p6, p7, p8⟩ := PZ_tk h
  have eq := PZ_eq h
  have hE := PZ_E h
  have hx := h.2.2.2.2.2.2.2.2.2.2.2 _ List.mem_cons_self
  rw [PD_7] at hp
  rw [SW_7] at hm
  have pd0 := PD_0 st
  obtain ⟨c1, o1, t1, wt, t2⟩ := WT_st hw (by omega)
  obtain ⟨t0, ec, eo⟩ := tx_7 t1
  rw [ec, eo] at wt
  have wl := WT_len wt
  replace h := PZ_drop h (by simp)
  obtain ⟨t3, t4, t5, t6⟩ := t0
  refine pq_of 13 [] [] ?_
  show (0 < d ∧ pzI (d - 1) 30 [.inr (.inr (39 : Nat)), .inl a] (A, B, Y, K, T) (fun nv1 Av1 Bv1 Yv1 Kv1 Tv1 => (0 < d ∧ pzV (d - 1) 20 [.inr (.inr (39 : Nat)), .inl (8 : Int), .inl nv1, .inl (0 : Int), .inl (0 : Int), .inl (0 : Int)] (Av1, Bv1, Yv1, Kv1, Tv1) (fun Av2 Bv2 Yv2 Kv2 Tv2 => (0 < d ∧ pzV (d - 1) 31 [.inr (.inr (39 : Nat))] (Av2, Bv2, Yv2, Kv2, Tv2) (fun Av3 Bv3 Yv3 Kv3 Tv3 => Q Av3 Bv3 Yv3 Kv3 Tv3))))))
  refine ⟨by omega, h_branch (x := (8, N, 0, 0, 0)) (by omega) h (by omega) t5 (hx.2.2.2.2.2.2.1 (Or.inl rfl)) (Or.inl rfl) rfl (fun z => by have : (8 : Int) = 11 := z; omega) (fun B1 ht1 rg1 bk1 h1 => ⟨by omega, z_wait0 h1 (by omega) (fun B2 h2 => ⟨by omega, h_block (by omega) h2 rfl (WT_c2 (tt_8 (by omega)) wt rfl rfl) (by simp only [List.length_cons, true_and, and_true]; omega) (by omega) (by first | omega | (simp only [PD_1, SW_1, PD_2, SW_2, PD_3, SW_3, PD_4, SW_4, PD_5, SW_5, PD_6, SW_6, PD_7, SW_7, PD_8, SW_8, PD_9, SW_9, PD_10, SW_10, PD_11, SW_11, PD_12, SW_12, PD_13, SW_13, PD_14, SW_14, PD_15, SW_15, PD_16, SW_16, PD_17, SW_17, PD_18, SW_18, PD_19, SW_19, PD_20, SW_20, PD_21, SW_21, PD_22, SW_22, PD_23, SW_23, PD_24, SW_24, PD_25, SW_25, PD_26, SW_26, PD_27, SW_27, PD_28, SW_28, PD_29, SW_29]; omega)) (by first | omega | (simp only [PD_1, SW_1, PD_2, SW_2, PD_3, SW_3, PD_4, SW_4, PD_5, SW_5, PD_6, SW_6, PD_7, SW_7, PD_8, SW_8, PD_9, SW_9, PD_10, SW_10, PD_11, SW_11, PD_12, SW_12, PD_13, SW_13, PD_14, SW_14, PD_15, SW_15, PD_16, SW_16, PD_17, SW_17, PD_18, SW_18, PD_19, SW_19, PD_20, SW_20, PD_21, SW_21, PD_22, SW_22, PD_23, SW_23, PD_24, SW_24, PD_25, SW_25, PD_26, SW_26, PD_27, SW_27, PD_28, SW_28, PD_29, SW_29]; omega)) hq⟩)⟩)⟩
set_option maxRecDepth 100000 in
set_option maxHeartbeats 400000 in
theorem t_8 (hd : 20 ≤ d) (h : PZ B0 B Y st ((8, a, b, c, e) :: st) cur op fr fr N F tp ow tk sc tm E ht rg bk) (hw : WT ((8, a, b, c, e) :: st) cur op) (ho : op ≤ 10) (hp : N + PD ((8, a, b, c, e) :: st) ≤ 3 * fr + 2) (hm : 64 * (3001 - fr) + SW ((8, a, b, c, e) :: st) ≤ m) (hq : HQ B0 m A K T Q) : pq d 23 189 [some (.inr (.inr 39)), some (.inl 8), some (.inl a), some (.inl b), some (.inl c), none] [] (A, B, Y, K, T) (qV Q) := by
  obtain ⟨p1, p2, p3, p4, p5, p6, p7, p8⟩ := PZ_tk h
  have eq := PZ_eq h
  have hE := PZ_E h
  have hx := h.2.2.2.2.2.2.2.2.2.2.2 _ List.mem_cons_self
  rw [PD_8] at hp
  rw [SW_8] at hm
  have pd0 := PD_0 st
  obtain ⟨c1, o1, t1, wt, t2⟩ := WT_st hw (by omega)
  obtain ⟨t0, ec, eo⟩ := tx_8 t1
  rw [ec, eo] at wt
  have wl := WT_len wt
  obtain ⟨t3, t4, t5, t6⟩ := t0
  refine pq_of 5 [] [] ?_
  show (0 < d ∧ pzV (d - 1) 32 [.inr (.inr (39 : Nat)), .inl a] (A, B, Y, K, T) (fun Av1 Bv1 Yv1 Kv1 Tv1 => Q Av1 Bv1 Yv1 Kv1 Tv1))
  exact ⟨by omega, h_ifDone (by omega) h t5 wt (by omega) (by omega) (by omega) (by omega) hq⟩
set_option maxRecDepth 100000 in
set_option maxHeartbeats 400000 in
theorem t_9 (hd : 20 ≤ d) (h : PZ B0 B Y st ((9, a, b, c, e) :: st) cur op fr fr N F tp ow tk sc tm E ht rg bk) (hw : WT ((9, a, b, c, e) :: st) cur op) (ho : op ≤ 10) (hp : N + PD ((9, a, b, c, e) :: st) ≤ 3 * fr + 2) (hm : 64 * (3001 - fr) + SW ((9, a, b, c, e) :: st) ≤ m) (hq : HQ B0 m A K T Q) : pq d 23 197 [some (.inr (.inr 39)), some (.inl 9), some (.inl a), some (.inl b), some (.inl c), none] [] (A, B, Y, K, T) (qV Q) := by
  obtain ⟨p1, p2, p3, p4, p5, p6, p7, p8⟩ := PZ_tk h
  have eq := PZ_eq h
  have hE := PZ_E h
  have hx := h.2.2.2.2.2.2.2.2.2.2.2 _ List.mem_cons_self
  rw [PD_9] at hp
  rw [SW_9] at hm
  have pd0 := PD_0 st
  obtain ⟨c1, o1, t1, wt, t2⟩ := WT_st hw (by omega)
  obtain ⟨t0, ec, eo⟩ := tx_9 t1
  rw [ec, eo] at wt
  have wl := WT_len wt
  obtain ⟨t3, t4, t5, t6⟩ := t0
  subst t5
  obtain ⟨r1, -⟩ := hx.2.2.2.1 rfl
  have r1 : 1 ≤ a ∧ a < N := r1
  refine pq_of 8 [] [] ?_
  show ((0 ≤ a ∧ a < (12000 : Int)) ∧ Q A (zu B 59 (a).toNat (B 39 38)) Y K T)
  have h2 := PZ_patch (a := a) h rfl (Or.inr (Or.inr (Or.inl rfl))) rfl
  rw [← eq.2.2.2.1] at h2
  refine ⟨by omega, ?_⟩
  rw [eq.2.2.2.1] at h2 ⊢
  exact hq.2.1 _ _ _ _ _ _ _ _ _ _ _ _ _ _ _ _ _ h2 wt (by omega) (by omega) (by omega)
set_option maxRecDepth 100000 in
set_option maxHeartbeats 400000 in
theorem t_10 (hd : 20 ≤ d) (h : PZ B0 B Y st ((10, a, b, c, e) :: st) cur op fr fr N F tp ow tk sc tm E ht rg bk) (hw : WT ((10, a, b, c, e) :: st) cur op) (ho : op ≤ 10) (hp : N + PD ((10, a, b, c, e) :: st) ≤ 3 * fr + 2) (hm : 64 * (3001 - fr) + SW ((10, a, b, c, e) :: st) ≤ m) (hq : HQ B0 m A K T Q) : pq d 23 210 [some (.inr (.inr 39)), some (.inl 10), some (.inl a), some (.inl b), some (.inl c), none] [] (A, B, Y, K, T) (qV Q) := by
  obtain ⟨p1, p2, p3, p4, p5, p6, p7, p8⟩ := PZ_tk h
  have eq := PZ_eq h
  have hE := PZ_E h
  have hx := h.2.2.2.2.2.2.2.2.2.2.2 _ List.mem_cons_self
  rw [PD_10] at hp
  rw [SW_10] at hm
  have pd0 := PD_0 st
  obtain ⟨c1, o1, t1, wt, t2⟩ := WT_st hw (by omega)
  obtain ⟨t0, ec, eo⟩ := tx_10 t1
  rw [ec, eo] at wt
  have wl := WT_len wt
  replace h := PZ_drop h (by simp)
  obtain ⟨t3, t4, t5, t6⟩ := t0
  refine pq_of 13 [] [] ?_
  show (0 < d ∧ pzI (d - 1) 30 [.inr (.inr (39 : Nat)), .inl a] (A, B, Y, K, T) (fun nv1 Av1 Bv1 Yv1 Kv1 Tv1 => (0 < d ∧ pzV (d - 1) 20 [.inr (.inr (39 : Nat)), .inl (11 : Int), .inl nv1, .inl b, .inl (0 : Int), .inl (0 : Int)] (Av1, Bv1, Yv1, Kv1, Tv1) (fun Av2 Bv2 Yv2 Kv2 Tv2 => (0 < d ∧ pzV (d - 1) 31 [.inr (.inr (39 : Nat))] (Av2, Bv2, Yv2, Kv2, Tv2) (fun Av3 Bv3 Yv3 Kv3 Tv3 => Q Av3 Bv3 Yv3 Kv3 Tv3))))))
  refine ⟨by omega, h_branch (x := (11, N, b, 0, 0)) (by omega) h (by omega) t5 (hx.2.2.2.2.2.2.1 (Or.inr (Or.inl rfl))) (Or.inr rfl) rfl (fun z => hx.2.2.2.2.1 (Or.inl rfl)) (fun B1 ht1 rg1 bk1 h1 => ⟨by omega, z_wait0 h1 (by omega) (fun B2 h2 => ⟨by omega, h_block (by omega) h2 rfl (WT_c2 (tt_11 (by omega)) wt rfl rfl) (by simp only [List.length_cons, true_and, and_true]; omega) (by omega) (by first | omega | (simp only [PD_1, SW_1, PD_2, SW_2, PD_3, SW_3, PD_4, SW_4, PD_5, SW_5, PD_6, SW_6, PD_7, SW_7, PD_8, SW_8, PD_9, SW_9, PD_10, SW_10, PD_11, SW_11, PD_12, SW_12, PD_13, SW_13, PD_14, SW_14, PD_15, SW_15, PD_16, SW_16, PD_17, SW_17, PD_18, SW_18, PD_19, SW_19, PD_20, SW_20, PD_21, SW_21, PD_22, SW_22, PD_23, SW_23, PD_24, SW_24, PD_25, SW_25, PD_26, SW_26, PD_27, SW_27, PD_28, SW_28, PD_29, SW_29]; omega)) (by first | omega | (simp only [PD_1, SW_1, PD_2, SW_2, PD_3, SW_3, PD_4, SW_4, PD_5, SW_5, PD_6, SW_6, PD_7, SW_7, PD_8, SW_8, PD_9, SW_9, PD_10, SW_10, PD_11, SW_11, PD_12, SW_12, PD_13, SW_13, PD_14, SW_14, PD_15, SW_15, PD_16, SW_16, PD_17, SW_17, PD_18, SW_18, PD_19, SW_19, PD_20, SW_20, PD_21, SW_21, PD_22, SW_22, PD_23, SW_23, PD_24, SW_24, PD_25, SW_25, PD_26, SW_26, PD_27, SW_27, PD_28, SW_28, PD_29, SW_29]; omega)) hq⟩)⟩)⟩
set_option maxRecDepth 100000 in
set_option maxHeartbeats 400000 in
theorem t_11 (hd : 20 ≤ d) (h : PZ B0 B Y st ((11, a, b, c, e) :: st) cur op fr fr N F tp ow tk sc tm E ht rg bk) (hw : WT ((11, a, b, c, e) :: st) cur op) (ho : op ≤ 10) (hp : N + PD ((11, a, b, c, e) :: st) ≤ 3 * fr + 2) (hm : 64 * (3001 - fr) + SW ((11, a, b, c, e) :: st) ≤ m) (hq : HQ B0 m A K T Q) : pq d 23 231 [some (.inr (.inr 39)), some (.inl 11), some (.inl a), some (.inl b), some (.inl c), none] [] (A, B, Y, K, T) (qV Q) := by
  obtain ⟨p1, p2, p3, p4, p5, p6, p7, p8⟩ := PZ_tk h
  have eq := PZ_eq h
  have hE := PZ_E h
  have hx := h.2.2.2.2.2.2.2.2.2.2.2 _ List.mem_cons_self
  rw [PD_11] at hp
  rw [SW_11] at hm
  have pd0 := PD_0 st
  obtain ⟨c1, o1, t1, wt, t2⟩ := WT_st hw (by omega)
  obtain ⟨t0, ec, eo⟩ := tx_11 t1
  rw [ec, eo] at wt
  have wl := WT_len wt
  obtain ⟨t3, t4, t5, t6⟩ := t0
  subst t5
  obtain ⟨r1, -⟩ := hx.2.2.1 (Or.inr rfl)
  have r1 : 1 ≤ a ∧ a < N := r1
  have r5 := hx.2.2.2.2.1 (Or.inr rfl)
  obtain ⟨⟨r6, r7⟩, r8, r9, r10⟩ : (1 ≤ b ∧ b ≤ tm) ∧ ht b.toNat = 0 ∧ rg b.toNat = F ∧ bk b.toNat = 0 := r5
  refine pq_of 18 [] [] ?_
  show (0 < d ∧ pzV (d - 1) 15 [.inr (.inr (39 : Nat)), .inl (13 : Int), .inl (0 : Int), .inl (0 : Int)] (A, B, Y, K, T) (fun Av1 Bv1 Yv1 Kv1 Tv1 => (0 < d ∧ pzV (d - 1) 15 [.inr (.inr (39 : Nat)), .inl (15 : Int), .inl b, .inl (0 : Int)] (Av1, Bv1, Yv1, Kv1, Tv1) (fun Av2 Bv2 Yv2 Kv2 Tv2 => ((0 ≤ a ∧ a < (12000 : Int)) ∧ Q Av2 (zu Bv2 59 (a).toNat (Bv2 39 38)) Yv2 Kv2 Tv2)))))
  refine ⟨by omega, z_say (y := 0) (fc' := fr) h (by omega) (Int.le_refl _) (by omega) (Int.le_refl _) (by omega) (Or.inr (Or.inr (Or.inr (Or.inr (Or.inr (Or.inr (Or.inr (Or.inr (Or.inr (Or.inr (Or.inr ⟨rfl, rfl⟩))))))))))) (fun B1 ht1 rg1 bk1 h1 s1 l1 => ?_)⟩
  have e1 := PZ_eq h1
  obtain ⟨l2, l3, l4⟩ := l1 b.toNat (by omega) (by omega)
  have h2 := PZ_bgo (b := b) (b' := 0) h1 rfl (by omega) (by rw [show (N + 1).toNat - 1 = N.toNat by omega]; exact s1.1) (by omega) ⟨⟨r6, r7⟩, by rw [l2]; exact r8, by rw [l3]; exact r9, by rw [l4]; exact r10⟩
  refine ⟨by omega, m_say (by omega) (by omega) ⟨by omega, ?_⟩⟩
  have h3 := PZ_patch (a := a) h2 rfl (Or.inr (Or.inr (Or.inr rfl))) rfl
  have e2 := (PZ_eq h2).2.2.2.1
  rw [← e2] at h3
  have e3 := (PZ_eq h3).2.2.2.1
  exact hq.2.1 _ _ _ _ _ _ _ _ _ _ _ _ _ _ _ _ _ h3 wt (by omega) (by omega) (by omega)
set_option maxRecDepth 100000 in
set_option maxHeartbeats 400000 in
theorem t_12 (hd : 20 ≤ d) (h : PZ B0 B Y st ((12, a, b, c, e) :: st) cur op fr fr N F tp ow tk sc tm E ht rg bk) (hw : WT ((12, a, b, c, e) :: st) cur op) (ho : op ≤ 10) (hp : N + PD ((12, a, b, c, e) :: st) ≤ 3 * fr + 2) (hm : 64 * (3001 - fr) + SW ((12, a, b, c, e) :: st) ≤ m) (hq : HQ B0 m A K T Q) : pq d 23 260 [some (.inr (.inr 39)), some (.inl 12), some (.inl a), some (.inl b), some (.inl c), none] [] (A, B, Y, K, T) (qV Q) := by
  obtain ⟨p1, p2, p3, p4, p5, p6, p7, p8⟩ := PZ_tk h
  have eq := PZ_eq h
  have hE := PZ_E h
  have hx := h.2.2.2.2.2.2.2.2.2.2.2 _ List.mem_cons_self
  rw [PD_12] at hp
  rw [SW_12] at hm
  have pd0 := PD_0 st
  obtain ⟨c1, o1, t1, wt, t2⟩ := WT_st hw (by omega)
  obtain ⟨t0, ec, eo⟩ := tx_12 t1
  rw [ec, eo] at wt
  have wl := WT_len wt
  replace h := PZ_drop h (by simp)
  obtain ⟨t3, t4, t5, t6⟩ := t0
  subst t5
  refine pq_of 4 [] [] ?_
  show (0 < d ∧ pzV (d - 1) 11 [.inr (.inr (39 : Nat)), .inl (125 : Int)] (A, B, Y, K, T) (fun Av1 Bv1 Yv1 Kv1 Tv1 => Q Av1 Bv1 Yv1 Kv1 Tv1))
  exact ⟨by omega, z_must (by omega) h (by omega) (by omega) (fun B1 f1 => hq.1 _ _ _ _ f1) (fun B1 Y1 f1 k1 z g1 g2 h1 s1 => hq.2.1 _ _ _ _ _ _ _ _ _ _ _ _ _ _ _ _ _ h1 wt (by omega) (by omega) (by omega))⟩
set_option maxRecDepth 100000 in
set_option maxHeartbeats 400000 in
theorem t_13 (hd : 20 ≤ d) (h : PZ B0 B Y st ((13, a, b, c, e) :: st) cur op fr fr N F tp ow tk sc tm E ht rg bk) (hw : WT ((13, a, b, c, e) :: st) cur op) (ho : op ≤ 10) (hp : N + PD ((13, a, b, c, e) :: st) ≤ 3 * fr + 2) (hm : 64 * (3001 - fr) + SW ((13, a, b, c, e) :: st) ≤ m) (hq : HQ B0 m A K T Q) : pq d 24 80 [some (.inr (.inr 39)), some (.inl 13), some (.inl a), some (.inl b), some (.inl c), some (.inl e), none] [] (A, B, Y, K, T) (qV Q) := by
  obtain ⟨p1, p2, p3, p4, p5, p6, p7, p8⟩ := PZ_tk h
  have eq := PZ_eq h
  have hE := PZ_E h
  have hx := h.2.2.2.2.2.2.2.2.2.2.2 _ List.mem_cons_self
  rw [PD_13] at hp
  rw [SW_13] at hm
  have pd0 := PD_0 st
  obtain ⟨c1, o1, t1, wt, t2⟩ := WT_st hw (by omega)
  obtain ⟨t0, ec, eo⟩ := tx_13 t1
  rw [ec, eo] at wt
  have wl := WT_len wt
  replace h := PZ_drop h (by simp)
  obtain ⟨t3, t4, t5, t6⟩ := t0
  obtain ⟨r1, r2⟩ := hx.2.2.2.2.2.1 (Or.inl rfl)
  refine pq_of 18 [] [] ?_
  show (0 < d ∧ pzV (d - 1) 11 [.inr (.inr (39 : Nat)), .inl (61 : Int)] (A, B, Y, K, T) (fun Av1 Bv1 Yv1 Kv1 Tv1 => (0 < d ∧ pzV (d - 1) 20 [.inr (.inr (39 : Nat)), .inl (14 : Int), .inl a, .inl b, .inl (B 39 7), .inl (0 : Int)] (Av1, Bv1, Yv1, Kv1, Tv1) (fun Av2 Bv2 Yv2 Kv2 Tv2 => (0 < d ∧ pzV (d - 1) 21 [.inr (.inr (39 : Nat)), .inl (17 : Int)] (Av2, Bv2, Yv2, Kv2, Tv2) (fun Av3 Bv3 Yv3 Kv3 Tv3 => Q Av3 Bv3 Yv3 Kv3 Tv3))))))
  refine ⟨by omega, z_must (by omega) h (by omega) (by omega) (fun B1 f1 => ⟨by omega, f_wait f1 (by omega) (fun B2 f2 => ⟨by omega, f_plain (by omega) f2 (by omega) (fun B3 f3 => hq.1 _ _ _ _ f3)⟩)⟩) (fun B1 Y1 f1 k1 z g1 g2 h1 s1 => ⟨by omega, z_wait h1 (by omega) (td_14 r1 r2 (by omega)) (fun B2 h2 s2 => ⟨by omega, z_plain (by omega) h2 (by simp only [List.length_cons, true_and, and_true]; omega) (td_0 (by omega)) (fun B3 h3 s3 => ?_)⟩)⟩)⟩
  have := g2 (by omega)
  exact hq.2.1 _ _ _ _ _ _ _ _ _ _ _ _ _ _ _ _ _ h3 (WT_c2 (tt_17 (by simp only [List.length_cons, true_and, and_true]; omega)) (WT_c2 (cur := cur + 1) (op := op) (tt_14 (by omega)) wt rfl rfl) rfl rfl) (by first | omega | (simp only [PD_1, SW_1, PD_2, SW_2, PD_3, SW_3, PD_4, SW_4, PD_5, SW_5, PD_6, SW_6, PD_7, SW_7, PD_8, SW_8, PD_9, SW_9, PD_10, SW_10, PD_11, SW_11, PD_12, SW_12, PD_13, SW_13, PD_14, SW_14, PD_15, SW_15, PD_16, SW_16, PD_17, SW_17, PD_18, SW_18, PD_19, SW_19, PD_20, SW_20, PD_21, SW_21, PD_22, SW_22, PD_23, SW_23, PD_24, SW_24, PD_25, SW_25, PD_26, SW_26, PD_27, SW_27, PD_28, SW_28, PD_29, SW_29]; omega)) (by omega) (by first | omega | (simp only [PD_1, SW_1, PD_2, SW_2, PD_3, SW_3, PD_4, SW_4, PD_5, SW_5, PD_6, SW_6, PD_7, SW_7, PD_8, SW_8, PD_9, SW_9, PD_10, SW_10, PD_11, SW_11, PD_12, SW_12, PD_13, SW_13, PD_14, SW_14, PD_15, SW_15, PD_16, SW_16, PD_17, SW_17, PD_18, SW_18, PD_19, SW_19, PD_20, SW_20, PD_21, SW_21, PD_22, SW_22, PD_23, SW_23, PD_24, SW_24, PD_25, SW_25, PD_26, SW_26, PD_27, SW_27, PD_28, SW_28, PD_29, SW_29]; omega))
set_option maxRecDepth 100000 in
set_option maxHeartbeats 400000 in
theorem t_14 (hd : 20 ≤ d) (h : PZ B0 B Y st ((14, a, b, c, e) :: st) cur op fr fr N F tp ow tk sc tm E ht rg bk) (hw : WT ((14, a, b, c, e) :: st) cur op) (ho : op ≤ 10) (hp : N + PD ((14, a, b, c, e) :: st) ≤ 3 * fr + 2) (hm : 64 * (3001 - fr) + SW ((14, a, b, c, e) :: st) ≤ m) (hq : HQ B0 m A K T Q) : pq d 24 112 [some (.inr (.inr 39)), some (.inl 14), some (.inl a), some (.inl b), some (.inl c), some (.inl e), none] [] (A, B, Y, K, T) (qV Q) := by
  obtain ⟨p1, p2, p3, p4, p5, p6, p7, p8⟩ := PZ_tk h
  have eq := PZ_eq h
  have hE := PZ_E h
  have hx := h.2.2.2.2.2.2.2.2.2.2.2 _ List.mem_cons_self
  rw [PD_14] at hp
  rw [SW_14] at hm
  have pd0 := PD_0 st
  obtain ⟨c1, o1, t1, wt, t2⟩ := WT_st hw (by omega)
  obtain ⟨t0, ec, eo⟩ := tx_14 t1
  rw [ec, eo] at wt
  have wl := WT_len wt
  replace h := PZ_drop h (by simp)
  obtain ⟨t3, t4, t5, t6⟩ := t0
  obtain ⟨r1, r2⟩ := hx.2.2.2.2.2.1 (Or.inr rfl)
  have r1 : b = 0 ∨ b = 1 := r1
  have r2 : (100 ≤ a ∧ a < 112 ∧ b = 0) ∨ (0 ≤ a ∧ a < tp) := r2
  have r3 := hx.2.2.2.2.2.2.2.1 (Or.inr (Or.inl rfl))
  refine pq_of 11 [] [] ?_
  show ((-2147483648 ≤ b ∧ b < 2147483648) ∧ (-2147483648 ≤ (1 : Int) ∧ (1 : Int) < 2147483648) ∧ (b ≠ (1 : Int) → (0 < d ∧ pzV (d - 1) 36 [.inr (.inr (39 : Nat)), .inl a, .inl (0 : Int), .inl c] (A, B, Y, K, T) (fun Av1 Bv1 Yv1 Kv1 Tv1 => Q Av1 Bv1 Yv1 Kv1 Tv1))) ∧ (b = (1 : Int) → (0 < d ∧ pzV (d - 1) 36 [.inr (.inr (39 : Nat)), .inl a, .inl (1 : Int), .inl c] (A, B, Y, K, T) (fun Av2 Bv2 Yv2 Kv2 Tv2 => Q Av2 Bv2 Yv2 Kv2 Tv2))))
  exact ⟨by omega, by omega, fun z => ⟨by omega, h_assigned (b := 0) (by omega) h (Or.inl rfl) (by omega) r3 (by omega) wt (by omega) (by omega) (by omega) (by omega) hq⟩, fun z => ⟨by omega, h_assigned (b := 1) (by omega) h (Or.inr rfl) (by omega) r3 (by omega) wt (by omega) (by omega) (by omega) (by omega) hq⟩⟩
set_option maxRecDepth 100000 in
set_option maxHeartbeats 400000 in
theorem t_15 (hd : 20 ≤ d) (h : PZ B0 B Y st ((15, a, b, c, e) :: st) cur op fr fr N F tp ow tk sc tm E ht rg bk) (hw : WT ((15, a, b, c, e) :: st) cur op) (ho : op ≤ 10) (hp : N + PD ((15, a, b, c, e) :: st) ≤ 3 * fr + 2) (hm : 64 * (3001 - fr) + SW ((15, a, b, c, e) :: st) ≤ m) (hq : HQ B0 m A K T Q) : pq d 24 132 [some (.inr (.inr 39)), some (.inl 15), some (.inl a), some (.inl b), some (.inl c), some (.inl e), none] [] (A, B, Y, K, T) (qV Q) := by
  obtain ⟨p1, p2, p3, p4, p5, p6, p7, p8⟩ := PZ_tk h
  have eq := PZ_eq h
  have hE := PZ_E h
  have hx := h.2.2.2.2.2.2.2.2.2.2.2 _ List.mem_cons_self
  rw [PD_15] at hp
  rw [SW_15] at hm
  have pd0 := PD_0 st
  obtain ⟨c1, o1, t1, wt, t2⟩ := WT_st hw (by omega)
  obtain ⟨t0, ec, eo⟩ := tx_15 t1
  rw [ec, eo] at wt
  have wl := WT_len wt
  replace h := PZ_drop h (by simp)
  obtain ⟨t3, t4, t5, t6⟩ := t0
  refine pq_of 4 [] [] ?_
  show (0 < d ∧ pzV (d - 1) 37 [.inr (.inr (39 : Nat))] (A, B, Y, K, T) (fun Av1 Bv1 Yv1 Kv1 Tv1 => Q Av1 Bv1 Yv1 Kv1 Tv1))
  exact ⟨by omega, h_index (by omega) h wt (by omega) (by omega) (by omega) (by omega) hq⟩
set_option maxRecDepth 100000 in
set_option maxHeartbeats 400000 in
theorem t_16 (hd : 20 ≤ d) (h : PZ B0 B Y st ((16, a, b, c, e) :: st) cur op fr fr N F tp ow tk sc tm E ht rg bk) (hw : WT ((16, a, b, c, e) :: st) cur op) (ho : op ≤ 10) (hp : N + PD ((16, a, b, c, e) :: st) ≤ 3 * fr + 2) (hm : 64 * (3001 - fr) + SW ((16, a, b, c, e) :: st) ≤ m) (hq : HQ B0 m A K T Q) : pq d 24 139 [some (.inr (.inr 39)), some (.inl 16), some (.inl a), some (.inl b), some (.inl c), some (.inl e), none] [] (A, B, Y, K, T) (qV Q) := by
  obtain ⟨p1, p2, p3, p4, p5, p6, p7, p8⟩ := PZ_tk h
  have eq := PZ_eq h
  have hE := PZ_E h
  have hx := h.2.2.2.2.2.2.2.2.2.2.2 _ List.mem_cons_self
  rw [PD_16] at hp
  rw [SW_16] at hm
  have pd0 := PD_0 st
  obtain ⟨c1, o1, t1, wt, t2⟩ := WT_st hw (by omega)
  obtain ⟨t0, ec, eo⟩ := tx_16 t1
  rw [ec, eo] at wt
  have wl := WT_len wt
  replace h := PZ_drop h (by simp)
  obtain ⟨t3, t4, t5, t6⟩ := t0
  have fin : ∀ B1 Y1 f1 k1, fr ≤ f1 → PZ B0 B1 Y1 st st cur op f1 f1 N F tp ow k1 sc tm E ht rg bk → Q A (zu B1 39 20 ((B1 39 20) - 1)) Y1 K T := by
    intro B1 Y1 f1 k1 g1 h1
    have h2 := PZ_open h1 ((B1 39 20) - 1)
    rw [(PZ_eq h1).2.1] at h2 ⊢
    exact hq.2.1 _ _ _ _ _ _ _ _ _ _ _ _ _ _ _ _ _ h2 wt (by omega) (by omega) (by omega)
  refine pq_of 18 [] [] ?_
  show ((-2147483648 ≤ (B 39 42) ∧ (B 39 42) < 2147483648) ∧ ((B 39 42) = (0 : Int) → (0 < d ∧ pzV (d - 1) 11 [.inr (.inr (39 : Nat)), .inl (93 : Int)] (A, B, Y, K, T) (fun Av1 Bv1 Yv1 Kv1 Tv1 => Q Av1 (zu Bv1 39 20 ((Bv1 39 20) - (1 : Int))) Yv1 Kv1 Tv1))) ∧ ((B 39 42) ≠ (0 : Int) → (0 < d ∧ pzV (d - 1) 12 [.inr (.inr (39 : Nat)), .inl (7 : Int), .inl a] (A, B, Y, K, T) (fun Av2 Bv2 Yv2 Kv2 Tv2 => (0 < d ∧ pzV (d - 1) 11 [.inr (.inr (39 : Nat)), .inl (93 : Int)] (Av2, Bv2, Yv2, Kv2, Tv2) (fun Av3 Bv3 Yv3 Kv3 Tv3 => Q Av3 (zu Bv3 39 20 ((Bv3 39 20) - (1 : Int))) Yv3 Kv3 Tv3))))))
  exact ⟨by omega, fun _ => ⟨by omega, z_must (by omega) h (by omega) (by omega) (fun B1 f1 => hq.1 _ _ _ _ (PF_open f1 _)) (fun B1 Y1 f1 k1 z g1 g2 h1 s1 => fin B1 Y1 f1 k1 g1 h1)⟩, fun _ => ⟨by omega, z_forbid h (by omega) (hx.2.2.2.2.2.2.1 (Or.inr (Or.inr (Or.inl rfl)))) (fun B0' h0 s0 => ⟨by omega, z_must (by omega) h0 (by omega) (by omega) (fun B1 f1 => hq.1 _ _ _ _ (PF_open f1 _)) (fun B1 Y1 f1 k1 z g1 g2 h1 s1 => fin B1 Y1 f1 k1 g1 h1)⟩)⟩⟩
set_option maxRecDepth 100000 in
set_option maxHeartbeats 400000 in
theorem t_17 (hd : 20 ≤ d) (h : PZ B0 B Y st ((17, a, b, c, e) :: st) cur op fr fr N F tp ow tk sc tm E ht rg bk) (hw : WT ((17, a, b, c, e) :: st) cur op) (ho : op ≤ 10) (hp : N + PD ((17, a, b, c, e) :: st) ≤ 3 * fr + 2) (hm : 64 * (3001 - fr) + SW ((17, a, b, c, e) :: st) ≤ m) (hq : HQ B0 m A K T Q) : pq d 24 172 [some (.inr (.inr 39)), some (.inl 17), some (.inl a), some (.inl b), some (.inl c), some (.inl e), none] [] (A, B, Y, K, T) (qV Q) := by
  obtain ⟨p1, p2, p3, p4, p5, p6, p7, p8⟩ := PZ_tk h
  have eq := PZ_eq h
  have hE := PZ_E h
  have hx := h.2.2.2.2.2.2.2.2.2.2.2 _ List.mem_cons_self
  rw [PD_17] at hp
  rw [SW_17] at hm
  have pd0 := PD_0 st
  obtain ⟨c1, o1, t1, wt, t2⟩ := WT_st hw (by omega)
  obtain ⟨t0, ec, eo⟩ := tx_17 t1
  rw [ec, eo] at wt
  have wl := WT_len wt
  replace h := PZ_drop h (by simp)
  obtain ⟨t3, t4, t5, t6⟩ := t0
  refine pq_of 8 [] [] ?_
  show (0 < d ∧ pzV (d - 1) 21 [.inr (.inr (39 : Nat)), .inl (18 : Int)] (A, B, Y, K, T) (fun Av1 Bv1 Yv1 Kv1 Tv1 => (0 < d ∧ pzV (d - 1) 21 [.inr (.inr (39 : Nat)), .inl (21 : Int)] (Av1, Bv1, Yv1, Kv1, Tv1) (fun Av2 Bv2 Yv2 Kv2 Tv2 => Q Av2 Bv2 Yv2 Kv2 Tv2))))
  refine ⟨by omega, z_plain (by omega) h (by omega) (td_0 (by omega)) (fun B2 h2 s2 => ⟨by omega, z_plain (by omega) h2 (by simp only [List.length_cons, true_and, and_true]; omega) (td_21 (by omega)) (fun B3 h3 s3 => ?_)⟩)⟩
  exact hq.2.1 _ _ _ _ _ _ _ _ _ _ _ _ _ _ _ _ _ h3 (WT_c2 (tt_21 (by simp only [List.length_cons, true_and, and_true]; omega)) (WT_c2 (cur := cur + 1) (op := op) (tt_18 (by omega)) wt rfl rfl) rfl rfl) (by first | omega | (simp only [PD_1, SW_1, PD_2, SW_2, PD_3, SW_3, PD_4, SW_4, PD_5, SW_5, PD_6, SW_6, PD_7, SW_7, PD_8, SW_8, PD_9, SW_9, PD_10, SW_10, PD_11, SW_11, PD_12, SW_12, PD_13, SW_13, PD_14, SW_14, PD_15, SW_15, PD_16, SW_16, PD_17, SW_17, PD_18, SW_18, PD_19, SW_19, PD_20, SW_20, PD_21, SW_21, PD_22, SW_22, PD_23, SW_23, PD_24, SW_24, PD_25, SW_25, PD_26, SW_26, PD_27, SW_27, PD_28, SW_28, PD_29, SW_29]; omega)) (by omega) (by first | omega | (simp only [PD_1, SW_1, PD_2, SW_2, PD_3, SW_3, PD_4, SW_4, PD_5, SW_5, PD_6, SW_6, PD_7, SW_7, PD_8, SW_8, PD_9, SW_9, PD_10, SW_10, PD_11, SW_11, PD_12, SW_12, PD_13, SW_13, PD_14, SW_14, PD_15, SW_15, PD_16, SW_16, PD_17, SW_17, PD_18, SW_18, PD_19, SW_19, PD_20, SW_20, PD_21, SW_21, PD_22, SW_22, PD_23, SW_23, PD_24, SW_24, PD_25, SW_25, PD_26, SW_26, PD_27, SW_27, PD_28, SW_28, PD_29, SW_29]; omega))
set_option maxRecDepth 100000 in
set_option maxHeartbeats 400000 in
theorem t_18 (hd : 20 ≤ d) (h : PZ B0 B Y st ((18, a, b, c, e) :: st) cur op fr fr N F tp ow tk sc tm E ht rg bk) (hw : WT ((18, a, b, c, e) :: st) cur op) (ho : op ≤ 10) (hp : N + PD ((18, a, b, c, e) :: st) ≤ 3 * fr + 2) (hm : 64 * (3001 - fr) + SW ((18, a, b, c, e) :: st) ≤ m) (hq : HQ B0 m A K T Q) : pq d 24 187 [some (.inr (.inr 39)), some (.inl 18), some (.inl a), some (.inl b), some (.inl c), some (.inl e), none] [] (A, B, Y, K, T) (qV Q) := by
  obtain ⟨p1, p2, p3, p4, p5, p6, p7, p8⟩ := PZ_tk h
  have eq := PZ_eq h
  have hE := PZ_E h
  have hx := h.2.2.2.2.2.2.2.2.2.2.2 _ List.mem_cons_self
  rw [PD_18] at hp
  rw [SW_18] at hm
  have pd0 := PD_0 st
  obtain ⟨c1, o1, t1, wt, t2⟩ := WT_st hw (by omega)
  obtain ⟨t0, ec, eo⟩ := tx_18 t1
  rw [ec, eo] at wt
  have wl := WT_len wt
  replace h := PZ_drop h (by simp)
  obtain ⟨t3, t4, t5, t6⟩ := t0
  refine pq_of 4 [] [] ?_
  show (0 < d ∧ pzV (d - 1) 38 [.inr (.inr (39 : Nat))] (A, B, Y, K, T) (fun Av1 Bv1 Yv1 Kv1 Tv1 => Q Av1 Bv1 Yv1 Kv1 Tv1))
  exact ⟨by omega, h_asked (by omega) h wt (by omega) (by omega) (by omega) (by omega) (by omega) hq⟩
set_option maxRecDepth 100000 in
set_option maxHeartbeats 400000 in
theorem t_19 (hd : 20 ≤ d) (h : PZ B0 B Y st ((19, a, b, c, e) :: st) cur op fr fr N F tp ow tk sc tm E ht rg bk) (hw : WT ((19, a, b, c, e) :: st) cur op) (ho : op ≤ 10) (hp : N + PD ((19, a, b, c, e) :: st) ≤ 3 * fr + 2) (hm : 64 * (3001 - fr) + SW ((19, a, b, c, e) :: st) ≤ m) (hq : HQ B0 m A K T Q) : pq d 24 194 [some (.inr (.inr 39)), some (.inl 19), some (.inl a), some (.inl b), some (.inl c), some (.inl e), none] [] (A, B, Y, K, T) (qV Q) := by
  obtain ⟨p1, p2, p3, p4, p5, p6, p7, p8⟩ := PZ_tk h
  have eq := PZ_eq h
  have hE := PZ_E h
  have hx := h.2.2.2.2.2.2.2.2.2.2.2 _ List.mem_cons_self
  rw [PD_19] at hp
  rw [SW_19] at hm
  have pd0 := PD_0 st
  obtain ⟨c1, o1, t1, wt, t2⟩ := WT_st hw (by omega)
  obtain ⟨t0, ec, eo⟩ := tx_19 t1
  rw [ec, eo] at wt
  have wl := WT_len wt
  replace h := PZ_drop h (by simp)
  obtain ⟨t3, t4, t5, t6⟩ := t0
  refine pq_of 9 [] [] ?_
  show ((-2147483648 ≤ a ∧ a < 2147483648) ∧ (-2147483648 ≤ (1 : Int) ∧ (1 : Int) < 2147483648) ∧ (a ≠ (1 : Int) → (0 < d ∧ pzV (d - 1) 39 [.inr (.inr (39 : Nat)), .inl (0 : Int)] (A, B, Y, K, T) (fun Av1 Bv1 Yv1 Kv1 Tv1 => Q Av1 Bv1 Yv1 Kv1 Tv1))) ∧ (a = (1 : Int) → (0 < d ∧ pzV (d - 1) 39 [.inr (.inr (39 : Nat)), .inl (1 : Int)] (A, B, Y, K, T) (fun Av2 Bv2 Yv2 Kv2 Tv2 => Q Av2 Bv2 Yv2 Kv2 Tv2))))
  have r1 : a = 0 ∨ a = 1 := hx.2.2.2.2.2.2.2.2.1 (Or.inl rfl)
  exact ⟨by omega, by omega, fun z => ⟨by omega, h_first (by omega) h (Or.inl rfl) wt (by omega) (by omega) (by omega) (by omega) (by omega) hq⟩, fun z => ⟨by omega, h_first (by omega) h (Or.inr rfl) wt (by omega) (by omega) (by omega) (by omega) (by omega) hq⟩⟩
set_option maxRecDepth 100000 in
set_option maxHeartbeats 400000 in
theorem t_20 (hd : 20 ≤ d) (h : PZ B0 B Y st ((20, a, b, c, e) :: st) cur op fr fr N F tp ow tk sc tm E ht rg bk) (hw : WT ((20, a, b, c, e) :: st) cur op) (ho : op ≤ 10) (hp : N + PD ((20, a, b, c, e) :: st) ≤ 3 * fr + 2) (hm : 64 * (3001 - fr) + SW ((20, a, b, c, e) :: st) ≤ m) (hq : HQ B0 m A K T Q) : pq d 24 211 [some (.inr (.inr 39)), some (.inl 20), some (.inl a), some (.inl b), some (.inl c), some (.inl e), none] [] (A, B, Y, K, T) (qV Q) := by
  obtain ⟨p1, p2, p3, p4, p5, p6, p7, p8⟩ := PZ_tk h
  have eq := PZ_eq h
  have hE := PZ_E h
  have hx := h.2.2.2.2.2.2.2.2.2.2.2 _ List.mem_cons_self
  rw [PD_20] at hp
  rw [SW_20] at hm
  have pd0 := PD_0 st
  obtain ⟨c1, o1, t1, wt, t2⟩ := WT_st hw (by omega)
  obtain ⟨t0, ec, eo⟩ := tx_20 t1
  rw [ec, eo] at wt
  have wl := WT_len wt
  replace h := PZ_drop h (by simp)
  obtain ⟨t3, t4, t5, t6⟩ := t0
  have r1 : a = 0 ∨ a = 1 := hx.2.2.2.2.2.2.2.2.1 (Or.inr rfl)
  have fin : ∀ s, (s = 0 ∨ s = 1) → pzV (d - 1) 15 [.inr (.inr 39), .inl 10, .inl 0, .inl 0] (A, (zu (zu B 39 20 ((B 39 20) - 1)) 39 42 s), Y, K, T) (fun Av1 Bv1 Yv1 Kv1 Tv1 => Q Av1 Bv1 Yv1 Kv1 Tv1) := by
    intro s hs
    have h2 := PZ_sec (PZ_open h ((B 39 20) - 1)) hs
    rw [eq.2.1] at h2 ⊢
    refine z_say (y := cur - 2) (fc' := fr) h2 (by omega) (Int.le_refl _) (by show fr ≤ (B 39 5); omega) (by omega) (by omega) (Or.inr (Or.inr (Or.inr (Or.inr (Or.inr (Or.inr (Or.inr (Or.inr (Or.inr (Or.inl ⟨rfl, t5, rfl⟩)))))))))) (fun B1 ht1 rg1 bk1 h1 s1 l1 => ?_)
    exact hq.2.1 _ _ _ _ _ _ _ _ _ _ _ _ _ _ _ _ _ h1 wt (by omega) (by omega) (by omega)
  refine pq_of 23 [] [] ?_
  show ((-2147483648 ≤ (B 39 42) ∧ (B 39 42) < 2147483648) ∧ ((B 39 42) ≠ (0 : Int) → (((1 : Int) = 0 ∨ (1 : Int) = 1) ∧ (0 < d ∧ pzV (d - 1) 15 [.inr (.inr (39 : Nat)), .inl (10 : Int), .inl (0 : Int), .inl (0 : Int)] (A, (zu (zu B 39 20 ((B 39 20) - (1 : Int))) 39 42 (1 : Int)), Y, K, T) (fun Av1 Bv1 Yv1 Kv1 Tv1 => Q Av1 Bv1 Yv1 Kv1 Tv1)))) ∧ ((B 39 42) = (0 : Int) → ((-2147483648 ≤ a ∧ a < 2147483648) ∧ (-2147483648 ≤ (1 : Int) ∧ (1 : Int) < 2147483648) ∧ (a ≠ (1 : Int) → (((0 : Int) = 0 ∨ (0 : Int) = 1) ∧ (0 < d ∧ pzV (d - 1) 15 [.inr (.inr (39 : Nat)), .inl (10 : Int), .inl (0 : Int), .inl (0 : Int)] (A, (zu (zu B 39 20 ((B 39 20) - (1 : Int))) 39 42 (0 : Int)), Y, K, T) (fun Av2 Bv2 Yv2 Kv2 Tv2 => Q Av2 Bv2 Yv2 Kv2 Tv2)))) ∧ (a = (1 : Int) → (((1 : Int) = 0 ∨ (1 : Int) = 1) ∧ (0 < d ∧ pzV (d - 1) 15 [.inr (.inr (39 : Nat)), .inl (10 : Int), .inl (0 : Int), .inl (0 : Int)] (A, (zu (zu B 39 20 ((B 39 20) - (1 : Int))) 39 42 (1 : Int)), Y, K, T) (fun Av3 Bv3 Yv3 Kv3 Tv3 => Q Av3 Bv3 Yv3 Kv3 Tv3)))))))
  exact ⟨by omega, fun _ => ⟨by omega, by omega, fin 1 (Or.inr rfl)⟩, fun _ => ⟨by omega, by omega, fun _ => ⟨by omega, by omega, fin 0 (Or.inl rfl)⟩, fun _ => ⟨by omega, by omega, fin 1 (Or.inr rfl)⟩⟩⟩
set_option maxRecDepth 100000 in
set_option maxHeartbeats 400000 in
theorem t_21 (hd : 20 ≤ d) (h : PZ B0 B Y st ((21, a, b, c, e) :: st) cur op fr fr N F tp ow tk sc tm E ht rg bk) (hw : WT ((21, a, b, c, e) :: st) cur op) (ho : op ≤ 10) (hp : N + PD ((21, a, b, c, e) :: st) ≤ 3 * fr + 2) (hm : 64 * (3001 - fr) + SW ((21, a, b, c, e) :: st) ≤ m) (hq : HQ B0 m A K T Q) : pq d 24 253 [some (.inr (.inr 39)), some (.inl 21), some (.inl a), some (.inl b), some (.inl c), some (.inl e), none] [] (A, B, Y, K, T) (qV Q) := by
  obtain ⟨p1, p2, p3, p4, p5, p6, p7, p8⟩ := PZ_tk h
  have eq := PZ_eq h
  have hE := PZ_E h
  have hx := h.2.2.2.2.2.2.2.2.2.2.2 _ List.mem_cons_self
  rw [PD_21] at hp
  rw [SW_21] at hm
  have pd0 := PD_0 st
  obtain ⟨c1, o1, t1, wt, t2⟩ := WT_st hw (by omega)
  obtain ⟨t0, ec, eo⟩ := tx_21 t1
  rw [ec, eo] at wt
  have wl := WT_len wt
  replace h := PZ_drop h (by simp)
  obtain ⟨t3, t4, t5, t6⟩ := t0
  have r1 : 0 ≤ a ∧ a ≤ 8 := hx.2.2.2.2.2.2.2.2.2.1 rfl
  refine pq_of 24 [] [] ?_
  show ((-2147483648 ≤ a ∧ a < 2147483648) ∧ (-2147483648 ≤ (8 : Int) ∧ (8 : Int) < 2147483648) ∧ ((8 : Int) ≤ a → ((-2147483648 ≤ a ∧ a < 2147483648) ∧ (-2147483648 ≤ (8 : Int) ∧ (8 : Int) < 2147483648) ∧ ((8 : Int) ≤ a → (0 < d ∧ pzV (d - 1) 42 [.inr (.inr (39 : Nat))] (A, B, Y, K, T) (fun Av1 Bv1 Yv1 Kv1 Tv1 => Q Av1 Bv1 Yv1 Kv1 Tv1))) ∧ (a < (8 : Int) → (0 < d ∧ pzV (d - 1) 20 [.inr (.inr (39 : Nat)), .inl (21 : Int), .inl (a + (1 : Int)), .inl (0 : Int), .inl (0 : Int), .inl (0 : Int)] (A, B, Y, K, T) (fun Av2 Bv2 Yv2 Kv2 Tv2 => Q Av2 Bv2 Yv2 Kv2 Tv2))))) ∧ (a < (8 : Int) → (0 < d ∧ pzV (d - 1) 20 [.inr (.inr (39 : Nat)), .inl (22 : Int), .inl a, .inl (0 : Int), .inl (0 : Int), .inl (0 : Int)] (A, B, Y, K, T) (fun Av3 Bv3 Yv3 Kv3 Tv3 => ((-2147483648 ≤ a ∧ a < 2147483648) ∧ (-2147483648 ≤ (8 : Int) ∧ (8 : Int) < 2147483648) ∧ ((8 : Int) ≤ a → (0 < d ∧ pzV (d - 1) 42 [.inr (.inr (39 : Nat))] (Av3, Bv3, Yv3, Kv3, Tv3) (fun Av4 Bv4 Yv4 Kv4 Tv4 => Q Av4 Bv4 Yv4 Kv4 Tv4))) ∧ (a < (8 : Int) → (0 < d ∧ pzV (d - 1) 20 [.inr (.inr (39 : Nat)), .inl (21 : Int), .inl (a + (1 : Int)), .inl (0 : Int), .inl (0 : Int), .inl (0 : Int)] (Av3, Bv3, Yv3, Kv3, Tv3) (fun Av5 Bv5 Yv5 Kv5 Tv5 => Q Av5 Bv5 Yv5 Kv5 Tv5))))))))
  refine ⟨by omega, by omega, fun z => ⟨by omega, by omega, fun _ => ⟨by omega, h_single (by omega) h wt (by omega) (by omega) (by omega) (by omega) hE hq⟩, fun z2 => absurd z2 (by omega)⟩, fun z => ⟨by omega, z_wait h (by omega) (td_22 (by omega)) (fun B2 h2 s2 => ⟨by omega, by omega, fun z2 => absurd z2 (by omega), fun _ => ⟨by omega, z_wait h2 (by simp only [List.length_cons, true_and, and_true]; omega) (td_21 (by omega)) (fun B3 h3 s3 => ?_)⟩⟩)⟩⟩
  exact hq.2.1 _ _ _ _ _ _ _ _ _ _ _ _ _ _ _ _ _ h3 (WT_c2 (tt_21 (by simp only [List.length_cons, true_and, and_true]; omega)) (WT_c2 (cur := cur + 1) (op := op) (tt_22 (by omega)) wt rfl rfl) rfl rfl) (by first | omega | (simp only [PD_1, SW_1, PD_2, SW_2, PD_3, SW_3, PD_4, SW_4, PD_5, SW_5, PD_6, SW_6, PD_7, SW_7, PD_8, SW_8, PD_9, SW_9, PD_10, SW_10, PD_11, SW_11, PD_12, SW_12, PD_13, SW_13, PD_14, SW_14, PD_15, SW_15, PD_16, SW_16, PD_17, SW_17, PD_18, SW_18, PD_19, SW_19, PD_20, SW_20, PD_21, SW_21, PD_22, SW_22, PD_23, SW_23, PD_24, SW_24, PD_25, SW_25, PD_26, SW_26, PD_27, SW_27, PD_28, SW_28, PD_29, SW_29]; omega)) (by omega) (by first | omega | (simp only [PD_1, SW_1, PD_2, SW_2, PD_3, SW_3, PD_4, SW_4, PD_5, SW_5, PD_6, SW_6, PD_7, SW_7, PD_8, SW_8, PD_9, SW_9, PD_10, SW_10, PD_11, SW_11, PD_12, SW_12, PD_13, SW_13, PD_14, SW_14, PD_15, SW_15, PD_16, SW_16, PD_17, SW_17, PD_18, SW_18, PD_19, SW_19, PD_20, SW_20, PD_21, SW_21, PD_22, SW_22, PD_23, SW_23, PD_24, SW_24, PD_25, SW_25, PD_26, SW_26, PD_27, SW_27, PD_28, SW_28, PD_29, SW_29]; omega))
set_option maxRecDepth 100000 in
set_option maxHeartbeats 400000 in
theorem t_22 (hd : 20 ≤ d) (h : PZ B0 B Y st ((22, a, b, c, e) :: st) cur op fr fr N F tp ow tk sc tm E ht rg bk) (hw : WT ((22, a, b, c, e) :: st) cur op) (ho : op ≤ 10) (hp : N + PD ((22, a, b, c, e) :: st) ≤ 3 * fr + 2) (hm : 64 * (3001 - fr) + SW ((22, a, b, c, e) :: st) ≤ m) (hq : HQ B0 m A K T Q) : pq d 24 297 [some (.inr (.inr 39)), some (.inl 22), some (.inl a), some (.inl b), some (.inl c), some (.inl e), none] [] (A, B, Y, K, T) (qV Q) := by
  obtain ⟨p1, p2, p3, p4, p5, p6, p7, p8⟩ := PZ_tk h
  have eq := PZ_eq h
  have hE := PZ_E h
  have hx := h.2.2.2.2.2.2.2.2.2.2.2 _ List.mem_cons_self
  rw [PD_22] at hp
  rw [SW_22] at hm
  have pd0 := PD_0 st
  obtain ⟨c1, o1, t1, wt, t2⟩ := WT_st hw (by omega)
  obtain ⟨t0, ec, eo⟩ := tx_22 t1
  rw [ec, eo] at wt
  have wl := WT_len wt
  replace h := PZ_drop h (by simp)
  obtain ⟨t3, t4, t5, t6⟩ := t0
  refine pq_of 5 [] [] ?_
  show (0 < d ∧ pzV (d - 1) 41 [.inr (.inr (39 : Nat)), .inl a] (A, B, Y, K, T) (fun Av1 Bv1 Yv1 Kv1 Tv1 => Q Av1 Bv1 Yv1 Kv1 Tv1))
  exact ⟨by omega, h_levelOn (by omega) h (hx.2.2.2.2.2.2.2.2.2.2.1 rfl) wt (by omega) (by omega) (by omega) (by omega) (by omega) hq⟩
theorem isop_r {t : Int} (h : isop t) : -2147483648 ≤ t ∧ t < 2147483648 := by
  unfold isop at h
  omega
set_option maxRecDepth 100000 in
set_option maxHeartbeats 400000 in
theorem t_23 (hd : 20 ≤ d) (h : PZ B0 B Y st ((23, a, b, c, e) :: st) cur op fr fr N F tp ow tk sc tm E ht rg bk) (hw : WT ((23, a, b, c, e) :: st) cur op) (ho : op ≤ 10) (hp : N + PD ((23, a, b, c, e) :: st) ≤ 3 * fr + 2) (hm : 64 * (3001 - fr) + SW ((23, a, b, c, e) :: st) ≤ m) (hq : HQ B0 m A K T Q) : pq d 24 305 [some (.inr (.inr 39)), some (.inl 23), some (.inl a), some (.inl b), some (.inl c), some (.inl e), none] [] (A, B, Y, K, T) (qV Q) := by
  obtain ⟨p1, p2, p3, p4, p5, p6, p7, p8⟩ := PZ_tk h
  have eq := PZ_eq h
  have hE := PZ_E h
  have hx := h.2.2.2.2.2.2.2.2.2.2.2 _ List.mem_cons_self
  rw [PD_23] at hp
  rw [SW_23] at hm
  have pd0 := PD_0 st
  obtain ⟨c1, o1, t1, wt, t2⟩ := WT_st hw (by omega)
  obtain ⟨t0, ec, eo⟩ := tx_23 t1
  rw [ec, eo] at wt
  have wl := WT_len wt
  replace h := PZ_drop h (by simp)
  obtain ⟨t3, t4, t5, t6⟩ := t0
  obtain ⟨r1, r2, r3⟩ := hx.2.2.2.2.2.2.2.2.2.2.2.1 rfl
  have r1 : 0 ≤ a ∧ a ≤ 7 := r1
  have r2 : isop b := r2
  have r3 : e = 0 ∨ e = 1 := r3
  have r4 := isop_r r2
  have r5 : -2147483648 ≤ c ∧ c < 2147483648 := hx.2.2.2.2.2.2.2.1 (by omega)
  have j354 : ∀ B1 s1, PZ B0 B1 Y st st cur op fr fr N F tp ow tk s1 tm E ht rg bk → pq d 24 354 [some (.inr (.inr 39)), some (.inl 23), some (.inl a), some (.inl b), some (.inl c), some (.inl e), none] [] (A, B1, Y, K, T) (qV Q) := by
    intro B1 s1 h1
    have e1 := PZ_eq h1
    refine pq_of 14 [] [] ?_
    show (0 < d ∧ pzV (d - 1) 15 [.inr (.inr (39 : Nat)), .inl (8 : Int), .inl b, .inl (0 : Int)] (A, B1, Y, K, T) (fun Av1 Bv1 Yv1 Kv1 Tv1 => (0 < d ∧ pzV (d - 1) 20 [.inr (.inr (39 : Nat)), .inl (22 : Int), .inl a, .inl (0 : Int), .inl (0 : Int), .inl (0 : Int)] (Av1, Bv1, Yv1, Kv1, Tv1) (fun Av2 Bv2 Yv2 Kv2 Tv2 => Q Av2 Bv2 Yv2 Kv2 Tv2))))
    refine ⟨by omega, z_say (y := cur - 1) (fc' := fr) h1 (by omega) (Int.le_refl _) (by omega) (by omega) (by omega) (Or.inr (Or.inr (Or.inr (Or.inr (Or.inr (Or.inr (Or.inr (Or.inl ⟨rfl, r2, t5, rfl⟩)))))))) (fun B2 ht2 rg2 bk2 h2 s2 l2 => ⟨by omega, z_wait h2 (by omega) (td_22 r1) (fun B3 h3 s3 => ?_)⟩)⟩
    exact hq.2.1 _ _ _ _ _ _ _ _ _ _ _ _ _ _ _ _ _ h3 (WT_c2 (cur := cur - 1) (op := op) (tt_22 (by omega)) wt rfl rfl) (by first | omega | (simp only [PD_1, SW_1, PD_2, SW_2, PD_3, SW_3, PD_4, SW_4, PD_5, SW_5, PD_6, SW_6, PD_7, SW_7, PD_8, SW_8, PD_9, SW_9, PD_10, SW_10, PD_11, SW_11, PD_12, SW_12, PD_13, SW_13, PD_14, SW_14, PD_15, SW_15, PD_16, SW_16, PD_17, SW_17, PD_18, SW_18, PD_19, SW_19, PD_20, SW_20, PD_21, SW_21, PD_22, SW_22, PD_23, SW_23, PD_24, SW_24, PD_25, SW_25, PD_26, SW_26, PD_27, SW_27, PD_28, SW_28, PD_29, SW_29]; omega)) (by omega) (by first | omega | (simp only [PD_1, SW_1, PD_2, SW_2, PD_3, SW_3, PD_4, SW_4, PD_5, SW_5, PD_6, SW_6, PD_7, SW_7, PD_8, SW_8, PD_9, SW_9, PD_10, SW_10, PD_11, SW_11, PD_12, SW_12, PD_13, SW_13, PD_14, SW_14, PD_15, SW_15, PD_16, SW_16, PD_17, SW_17, PD_18, SW_18, PD_19, SW_19, PD_20, SW_20, PD_21, SW_21, PD_22, SW_22, PD_23, SW_23, PD_24, SW_24, PD_25, SW_25, PD_26, SW_26, PD_27, SW_27, PD_28, SW_28, PD_29, SW_29]; omega))
  have j327 : ∀ B1 s1, PZ B0 B1 Y st st cur op fr fr N F tp ow tk s1 tm E ht rg bk → pq d 24 327 [some (.inr (.inr 39)), some (.inl 23), some (.inl a), some (.inl b), some (.inl c), some (.inl e), none] [] (A, B1, Y, K, T) (qV Q) := by
    intro B1 s1 h1
    have e1 := PZ_eq h1
    have s1' := (PZ_tk h1).2.2.2.1
    refine pq_of 13 [(354, [])] [] ?_
    show ((-2147483648 ≤ (B1 39 42) ∧ (B1 39 42) < 2147483648) ∧ ((B1 39 42) = (0 : Int) → pq d 24 354 [some (.inr (.inr (39 : Nat))), some (.inl (23 : Int)), some (.inl a), some (.inl b), some (.inl c), some (.inl e), none] [] (A, B1, Y, K, T) (qV Q)) ∧ ((B1 39 42) ≠ (0 : Int) → ((-2147483648 ≤ b ∧ b < 2147483648) ∧ (-2147483648 ≤ (47 : Int) ∧ (47 : Int) < 2147483648) ∧ (b = (47 : Int) → (0 < d ∧ pzV (d - 1) 12 [.inr (.inr (39 : Nat)), .inl (9 : Int), .inl c] (A, B1, Y, K, T) (fun Av1 Bv1 Yv1 Kv1 Tv1 => pq d 24 354 [some (.inr (.inr (39 : Nat))), some (.inl (23 : Int)), some (.inl a), some (.inl b), some (.inl c), some (.inl e), none] [] (Av1, Bv1, Yv1, Kv1, Tv1) (qV Q)))) ∧ (b ≠ (47 : Int) → ((-2147483648 ≤ b ∧ b < 2147483648) ∧ (-2147483648 ≤ (37 : Int) ∧ (37 : Int) < 2147483648) ∧ (b ≠ (37 : Int) → pq d 24 354 [some (.inr (.inr (39 : Nat))), some (.inl (23 : Int)), some (.inl a), some (.inl b), some (.inl c), some (.inl e), none] [] (A, B1, Y, K, T) (qV Q)) ∧ (b = (37 : Int) → (0 < d ∧ pzV (d - 1) 12 [.inr (.inr (39 : Nat)), .inl (9 : Int), .inl c] (A, B1, Y, K, T) (fun Av2 Bv2 Yv2 Kv2 Tv2 => pq d 24 354 [some (.inr (.inr (39 : Nat))), some (.inl (23 : Int)), some (.inl a), some (.inl b), some (.inl c), some (.inl e), none] [] (Av2, Bv2, Yv2, Kv2, Tv2) (qV Q)))))))))
    exact ⟨by omega, fun _ => j354 B1 s1 h1, fun _ => ⟨by omega, by omega, fun _ => ⟨by omega, z_forbid h1 (by omega) r5 (fun B2 h2 _ => j354 B2 s1 h2)⟩, fun _ => ⟨by omega, by omega, fun _ => j354 B1 s1 h1, fun _ => ⟨by omega, z_forbid h1 (by omega) r5 (fun B2 h2 _ => j354 B2 s1 h2)⟩⟩⟩⟩
  refine pq_of 10 [(327, [])] [] ?_
  show ((-2147483648 ≤ (B 39 42) ∧ (B 39 42) < 2147483648) ∧ ((B 39 42) ≠ (0 : Int) → (((1 : Int) = 0 ∨ (1 : Int) = 1) ∧ pq d 24 327 [some (.inr (.inr (39 : Nat))), some (.inl (23 : Int)), some (.inl a), some (.inl b), some (.inl c), some (.inl e), none] [] (A, (zu B 39 42 (1 : Int)), Y, K, T) (qV Q))) ∧ ((B 39 42) = (0 : Int) → ((-2147483648 ≤ e ∧ e < 2147483648) ∧ (-2147483648 ≤ (1 : Int) ∧ (1 : Int) < 2147483648) ∧ (e ≠ (1 : Int) → (((0 : Int) = 0 ∨ (0 : Int) = 1) ∧ pq d 24 327 [some (.inr (.inr (39 : Nat))), some (.inl (23 : Int)), some (.inl a), some (.inl b), some (.inl c), some (.inl e), none] [] (A, (zu B 39 42 (0 : Int)), Y, K, T) (qV Q))) ∧ (e = (1 : Int) → (((1 : Int) = 0 ∨ (1 : Int) = 1) ∧ pq d 24 327 [some (.inr (.inr (39 : Nat))), some (.inl (23 : Int)), some (.inl a), some (.inl b), some (.inl c), some (.inl e), none] [] (A, (zu B 39 42 (1 : Int)), Y, K, T) (qV Q))))))
  exact ⟨by omega, fun _ => ⟨by omega, j327 _ 1 (PZ_sec h (Or.inr rfl))⟩, fun _ => ⟨by omega, by omega, fun _ => ⟨by omega, j327 _ 0 (PZ_sec h (Or.inl rfl))⟩, fun _ => ⟨by omega, j327 _ 1 (PZ_sec h (Or.inr rfl))⟩⟩⟩
set_option maxRecDepth 100000 in
set_option maxHeartbeats 400000 in
theorem t_24 (hd : 20 ≤ d) (h : PZ B0 B Y st ((24, a, b, c, e) :: st) cur op fr fr N F tp ow tk sc tm E ht rg bk) (hw : WT ((24, a, b, c, e) :: st) cur op) (ho : op ≤ 10) (hp : N + PD ((24, a, b, c, e) :: st) ≤ 3 * fr + 2) (hm : 64 * (3001 - fr) + SW ((24, a, b, c, e) :: st) ≤ m) (hq : HQ B0 m A K T Q) : pq d 24 375 [some (.inr (.inr 39)), some (.inl 24), some (.inl a), some (.inl b), some (.inl c), some (.inl e), none] [] (A, B, Y, K, T) (qV Q) := by
  obtain ⟨p1, p2, p3, p4, p5, p6, p7, p8⟩ := PZ_tk h
  have eq := PZ_eq h
  have hE := PZ_E h
  have hx := h.2.2.2.2.2.2.2.2.2.2.2 _ List.mem_cons_self
  rw [PD_24] at hp
  rw [SW_24] at hm
  have pd0 := PD_0 st
  obtain ⟨c1, o1, t1, wt, t2⟩ := WT_st hw (by omega)
  obtain ⟨t0, ec, eo⟩ := tx_24 t1
  rw [ec, eo] at wt
  have wl := WT_len wt
  replace h := PZ_drop h (by simp)
  obtain ⟨t3, t4, t5, t6⟩ := t0
  refine pq_of 4 [] [] ?_
  show (0 < d ∧ pzV (d - 1) 42 [.inr (.inr (39 : Nat))] (A, B, Y, K, T) (fun Av1 Bv1 Yv1 Kv1 Tv1 => Q Av1 Bv1 Yv1 Kv1 Tv1))
  exact ⟨by omega, h_single (by omega) h wt (by omega) (by omega) (by omega) (by omega) hE hq⟩
set_option maxRecDepth 100000 in
set_option maxHeartbeats 400000 in
theorem t_25 (hd : 20 ≤ d) (h : PZ B0 B Y st ((25, a, b, c, e) :: st) cur op fr fr N F tp ow tk sc tm E ht rg bk) (hw : WT ((25, a, b, c, e) :: st) cur op) (ho : op ≤ 10) (hp : N + PD ((25, a, b, c, e) :: st) ≤ 3 * fr + 2) (hm : 64 * (3001 - fr) + SW ((25, a, b, c, e) :: st) ≤ m) (hq : HQ B0 m A K T Q) : pq d 24 382 [some (.inr (.inr 39)), some (.inl 25), some (.inl a), some (.inl b), some (.inl c), some (.inl e), none] [] (A, B, Y, K, T) (qV Q) := by
  obtain ⟨p1, p2, p3, p4, p5, p6, p7, p8⟩ := PZ_tk h
  have eq := PZ_eq h
  have hE := PZ_E h
  have hx := h.2.2.2.2.2.2.2.2.2.2.2 _ List.mem_cons_self
  rw [PD_25] at hp
  rw [SW_25] at hm
  have pd0 := PD_0 st
  obtain ⟨c1, o1, t1, wt, t2⟩ := WT_st hw (by omega)
  obtain ⟨t0, ec, eo⟩ := tx_25 t1
  rw [ec, eo] at wt
  have wl := WT_len wt
  replace h := PZ_drop h (by simp)
  obtain ⟨t3, t4, t5, t6⟩ := t0
  refine pq_of 13 [] [] ?_
  show (0 < d ∧ pzV (d - 1) 15 [.inr (.inr (39 : Nat)), .inl (9 : Int), .inl a, .inl (0 : Int)] (A, (zu B 39 20 ((B 39 20) - (1 : Int))), Y, K, T) (fun Av1 Bv1 Yv1 Kv1 Tv1 => Q Av1 Bv1 Yv1 Kv1 Tv1))
  have h2 := PZ_open h ((B 39 20) - 1)
  rw [eq.2.1] at h2 ⊢
  refine ⟨by omega, z_say (y := cur) (fc' := fr) h2 (by omega) (Int.le_refl _) (by show fr ≤ (B 39 5); omega) (by omega) (by omega) (Or.inr (Or.inr (Or.inr (Or.inr (Or.inr (Or.inr (Or.inr (Or.inr (Or.inl ⟨rfl, hx.2.2.2.2.2.2.1 (Or.inr (Or.inr (Or.inr rfl))), t5, rfl⟩))))))))) (fun B1 ht1 rg1 bk1 h1 s1 l1 => ?_)⟩
  exact hq.2.1 _ _ _ _ _ _ _ _ _ _ _ _ _ _ _ _ _ h1 wt (by omega) (by omega) (by omega)
set_option maxRecDepth 100000 in
set_option maxHeartbeats 400000 in
theorem t_26 (hd : 20 ≤ d) (h : PZ B0 B Y st ((26, a, b, c, e) :: st) cur op fr fr N F tp ow tk sc tm E ht rg bk) (hw : WT ((26, a, b, c, e) :: st) cur op) (ho : op ≤ 10) (hp : N + PD ((26, a, b, c, e) :: st) ≤ 3 * fr + 2) (hm : 64 * (3001 - fr) + SW ((26, a, b, c, e) :: st) ≤ m) (hq : HQ B0 m A K T Q) : pq d 24 403 [some (.inr (.inr 39)), some (.inl 26), some (.inl a), some (.inl b), some (.inl c), some (.inl e), none] [] (A, B, Y, K, T) (qV Q) := by
  obtain ⟨p1, p2, p3, p4, p5, p6, p7, p8⟩ := PZ_tk h
  have eq := PZ_eq h
  have hE := PZ_E h
  have hx := h.2.2.2.2.2.2.2.2.2.2.2 _ List.mem_cons_self
  rw [PD_26] at hp
  rw [SW_26] at hm
  have pd0 := PD_0 st
  obtain ⟨c1, o1, t1, wt, t2⟩ := WT_st hw (by omega)
  obtain ⟨t0, ec, eo⟩ := tx_26 t1
  rw [ec, eo] at wt
  have wl := WT_len wt
  replace h := PZ_drop h (by simp)
  obtain ⟨t3, t4, t5, t6⟩ := t0
  refine pq_of 11 [] [] ?_
  show (0 < d ∧ pzV (d - 1) 11 [.inr (.inr (39 : Nat)), .inl (41 : Int)] (A, B, Y, K, T) (fun Av1 Bv1 Yv1 Kv1 Tv1 => Q Av1 (zu Bv1 39 20 ((Bv1 39 20) - (1 : Int))) Yv1 Kv1 Tv1))
  refine ⟨by omega, z_must (by omega) h (by omega) (by omega) (fun B1 f1 => hq.1 _ _ _ _ (PF_open f1 _)) (fun B1 Y1 f1 k1 z g1 g2 h1 s1 => ?_)⟩
  have h2 := PZ_open h1 ((B1 39 20) - 1)
  rw [(PZ_eq h1).2.1] at h2 ⊢
  exact hq.2.1 _ _ _ _ _ _ _ _ _ _ _ _ _ _ _ _ _ h2 wt (by omega) (by omega) (by omega)
set_option maxRecDepth 100000 in
set_option maxHeartbeats 400000 in
theorem t_27 (hd : 20 ≤ d) (h : PZ B0 B Y st ((27, a, b, c, e) :: st) cur op fr fr N F tp ow tk sc tm E ht rg bk) (hw : WT ((27, a, b, c, e) :: st) cur op) (ho : op ≤ 10) (hp : N + PD ((27, a, b, c, e) :: st) ≤ 3 * fr + 2) (hm : 64 * (3001 - fr) + SW ((27, a, b, c, e) :: st) ≤ m) (hq : HQ B0 m A K T Q) : pq d 24 422 [some (.inr (.inr 39)), some (.inl 27), some (.inl a), some (.inl b), some (.inl c), some (.inl e), none] [] (A, B, Y, K, T) (qV Q) := by
  obtain ⟨p1, p2, p3, p4, p5, p6, p7, p8⟩ := PZ_tk h
  have eq := PZ_eq h
  have hE := PZ_E h
  have hx := h.2.2.2.2.2.2.2.2.2.2.2 _ List.mem_cons_self
  rw [PD_27] at hp
  rw [SW_27] at hm
  have pd0 := PD_0 st
  obtain ⟨c1, o1, t1, wt, t2⟩ := WT_st hw (by omega)
  obtain ⟨t0, ec, eo⟩ := tx_27 t1
  rw [ec, eo] at wt
  have wl := WT_len wt
  replace h := PZ_drop h (by simp)
  obtain ⟨t3, t4, t5, t6⟩ := t0
  have r1 : 0 ≤ a ∧ a < tp := hx.2.2.2.2.2.2.2.2.2.2.2.2.1 rfl
  refine pq_of 13 [] [] ?_
  show (0 < d ∧ pzV (d - 1) 15 [.inr (.inr (39 : Nat)), .inl (4 : Int), .inl a, .inl (0 : Int)] (A, B, Y, K, T) (fun Av1 Bv1 Yv1 Kv1 Tv1 => ((0 ≤ a ∧ a < (40 : Int)) ∧ (((Bv1 47 (a).toNat) = 0 ∨ (Bv1 47 (a).toNat) = 1) ∧ Q Av1 (zu Bv1 39 42 (Bv1 47 (a).toNat)) Yv1 Kv1 Tv1))))
  refine ⟨by omega, z_say (y := cur) (fc' := fr) h (by omega) (Int.le_refl _) (by omega) (by omega) (by omega) (Or.inr (Or.inr (Or.inr (Or.inl ⟨rfl, r1, t5, rfl⟩)))) (fun B1 ht1 rg1 bk1 h1 s1 l1 => ?_)⟩
  have s47 := h1.2.2.2.2.2.1.2.2.2 a.toNat
  exact ⟨by omega, s47, hq.2.1 _ _ _ _ _ _ _ _ _ _ _ _ _ _ _ _ _ (PZ_sec h1 s47) wt (by omega) (by omega) (by omega)⟩
set_option maxRecDepth 100000 in
set_option maxHeartbeats 400000 in
theorem t_28 (hd : 20 ≤ d) (h : PZ B0 B Y st ((28, a, b, c, e) :: st) cur op fr fr N F tp ow tk sc tm E ht rg bk) (hw : WT ((28, a, b, c, e) :: st) cur op) (ho : op ≤ 10) (hp : N + PD ((28, a, b, c, e) :: st) ≤ 3 * fr + 2) (hm : 64 * (3001 - fr) + SW ((28, a, b, c, e) :: st) ≤ m) (hq : HQ B0 m A K T Q) : pq d 24 442 [some (.inr (.inr 39)), some (.inl 28), some (.inl a), some (.inl b), some (.inl c), some (.inl e), none] [] (A, B, Y, K, T) (qV Q) := by
  obtain ⟨p1, p2, p3, p4, p5, p6, p7, p8⟩ := PZ_tk h
  have eq := PZ_eq h
  have hE := PZ_E h
  have hx := h.2.2.2.2.2.2.2.2.2.2.2 _ List.mem_cons_self
  rw [PD_28] at hp
  rw [SW_28] at hm
  have pd0 := PD_0 st
  obtain ⟨c1, o1, t1, wt, t2⟩ := WT_st hw (by omega)
  obtain ⟨t0, ec, eo⟩ := tx_28 t1
  rw [ec, eo] at wt
  have wl := WT_len wt
  replace h := PZ_drop h (by simp)
  obtain ⟨t3, t4, t5, t6⟩ := t0
  refine pq_of 13 [] [] ?_
  show (0 < d ∧ pzV (d - 1) 20 [.inr (.inr (39 : Nat)), .inl (29 : Int), .inl a, .inl b, .inl (B 39 7), .inl (0 : Int)] (A, B, Y, K, T) (fun Av1 Bv1 Yv1 Kv1 Tv1 => (0 < d ∧ pzV (d - 1) 21 [.inr (.inr (39 : Nat)), .inl (17 : Int)] (Av1, Bv1, Yv1, Kv1, Tv1) (fun Av2 Bv2 Yv2 Kv2 Tv2 => Q Av2 Bv2 Yv2 Kv2 Tv2))))
  refine ⟨by omega, z_wait h (by omega) (td_29 (hx.2.2.2.2.2.2.2.2.2.2.2.2.2 (Or.inl rfl)) (by omega)) (fun B2 h2 s2 => ⟨by omega, z_plain (by omega) h2 (by simp only [List.length_cons, true_and, and_true]; omega) (td_0 (by omega)) (fun B3 h3 s3 => ?_)⟩)⟩
  exact hq.2.1 _ _ _ _ _ _ _ _ _ _ _ _ _ _ _ _ _ h3 (WT_c2 (tt_17 (by simp only [List.length_cons, true_and, and_true]; omega)) (WT_c2 (cur := cur + 1) (op := op) (tt_29 (by omega)) wt (by omega) rfl) rfl rfl) (by first | omega | (simp only [PD_1, SW_1, PD_2, SW_2, PD_3, SW_3, PD_4, SW_4, PD_5, SW_5, PD_6, SW_6, PD_7, SW_7, PD_8, SW_8, PD_9, SW_9, PD_10, SW_10, PD_11, SW_11, PD_12, SW_12, PD_13, SW_13, PD_14, SW_14, PD_15, SW_15, PD_16, SW_16, PD_17, SW_17, PD_18, SW_18, PD_19, SW_19, PD_20, SW_20, PD_21, SW_21, PD_22, SW_22, PD_23, SW_23, PD_24, SW_24, PD_25, SW_25, PD_26, SW_26, PD_27, SW_27, PD_28, SW_28, PD_29, SW_29]; omega)) (by omega) (by first | omega | (simp only [PD_1, SW_1, PD_2, SW_2, PD_3, SW_3, PD_4, SW_4, PD_5, SW_5, PD_6, SW_6, PD_7, SW_7, PD_8, SW_8, PD_9, SW_9, PD_10, SW_10, PD_11, SW_11, PD_12, SW_12, PD_13, SW_13, PD_14, SW_14, PD_15, SW_15, PD_16, SW_16, PD_17, SW_17, PD_18, SW_18, PD_19, SW_19, PD_20, SW_20, PD_21, SW_21, PD_22, SW_22, PD_23, SW_23, PD_24, SW_24, PD_25, SW_25, PD_26, SW_26, PD_27, SW_27, PD_28, SW_28, PD_29, SW_29]; omega))
set_option maxRecDepth 100000 in
set_option maxHeartbeats 400000 in
theorem t_29 (hd : 20 ≤ d) (h : PZ B0 B Y st ((29, a, b, c, e) :: st) cur op fr fr N F tp ow tk sc tm E ht rg bk) (hw : WT ((29, a, b, c, e) :: st) cur op) (ho : op ≤ 10) (hp : N + PD ((29, a, b, c, e) :: st) ≤ 3 * fr + 2) (hm : 64 * (3001 - fr) + SW ((29, a, b, c, e) :: st) ≤ m) (hq : HQ B0 m A K T Q) : pq d 24 464 [some (.inr (.inr 39)), some (.inl 29), some (.inl a), some (.inl b), some (.inl c), some (.inl e), none] [] (A, B, Y, K, T) (qV Q) := by
  obtain ⟨p1, p2, p3, p4, p5, p6, p7, p8⟩ := PZ_tk h
  have eq := PZ_eq h
  have hE := PZ_E h
  have hx := h.2.2.2.2.2.2.2.2.2.2.2 _ List.mem_cons_self
  rw [PD_29] at hp
  rw [SW_29] at hm
  have pd0 := PD_0 st
  obtain ⟨c1, o1, t1, wt, t2⟩ := WT_st hw (by omega)
  obtain ⟨t0, ec, eo⟩ := tx_29 t1
  rw [ec, eo] at wt
  have wl := WT_len wt
  replace h := PZ_drop h (by simp)
  obtain ⟨t3, t4, t5, t6⟩ := t0
  refine pq_of 6 [] [] ?_
  show (0 < d ∧ pzV (d - 1) 45 [.inr (.inr (39 : Nat)), .inl a, .inl b, .inl c] (A, B, Y, K, T) (fun Av1 Bv1 Yv1 Kv1 Tv1 => Q Av1 Bv1 Yv1 Kv1 Tv1))
  exact ⟨by omega, h_given (by omega) h (hx.2.2.2.2.2.2.2.2.2.2.2.2.2 (Or.inr rfl)) (by omega) (by omega) (hx.2.2.2.2.2.2.2.1 (Or.inr (Or.inr (Or.inr rfl)))) wt (by omega) (by omega) (by omega) (by omega) hq⟩
theorem WT_w (h : WT ((w, a, b, c, e) :: st) cur op) : 1 ≤ w := by
  obtain ⟨c1, o1, t1, -⟩ := h
  exact (tx_w t1).1
theorem WT_w2 (h : WT ((w, a, b, c, e) :: st) cur op) : w ≤ 29 := by
  obtain ⟨c1, o1, t1, -⟩ := h
  exact (tx_w t1).2.1
set_option maxRecDepth 100000 in
set_option maxHeartbeats 400000 in
theorem h_rows (hd : 20 ≤ d) (h : PZ B0 B Y st ((w, a, b, c, e) :: st) cur op fr fr N F tp ow tk sc tm E ht rg bk) (hw : WT ((w, a, b, c, e) :: st) cur op) (ho : op ≤ 10) (hp : N + PD ((w, a, b, c, e) :: st) ≤ 3 * fr + 2) (hm : 64 * (3001 - fr) + SW ((w, a, b, c, e) :: st) ≤ m) (hq : HQ B0 m A K T Q) (w13 : w < 13) : pzV d 23 [.inr (.inr 39), .inl w, .inl a, .inl b, .inl c] (A, B, Y, K, T) Q := by
  have w1 : 1 ≤ w := WT_w hw
  refine pzV_of 2 [(60, []), (68, []), (93, []), (124, []), (135, []), (155, []), (168, []), (189, []), (197, []), (210, []), (231, []), (260, [])] [] ?_
  show ((-2147483648 ≤ w ∧ w < 2147483648) ∧ ((w < (1 : Int) ∨ (11 : Int) < w) → pq d 23 260 [some (.inr (.inr (39 : Nat))), some (.inl w), some (.inl a), some (.inl b), some (.inl c), none] [] (A, B, Y, K, T) (qV Q)) ∧ (w = (1 : Int) → pq d 23 60 [some (.inr (.inr (39 : Nat))), some (.inl w), some (.inl a), some (.inl b), some (.inl c), none] [] (A, B, Y, K, T) (qV Q)) ∧ (w = (2 : Int) → pq d 23 68 [some (.inr (.inr (39 : Nat))), some (.inl w), some (.inl a), some (.inl b), some (.inl c), none] [] (A, B, Y, K, T) (qV Q)) ∧ (w = (3 : Int) → pq d 23 93 [some (.inr (.inr (39 : Nat))), some (.inl w), some (.inl a), some (.inl b), some (.inl c), none] [] (A, B, Y, K, T) (qV Q)) ∧ (w = (4 : Int) → pq d 23 124 [some (.inr (.inr (39 : Nat))), some (.inl w), some (.inl a), some (.inl b), some (.inl c), none] [] (A, B, Y, K, T) (qV Q)) ∧ (w = (5 : Int) → pq d 23 135 [some (.inr (.inr (39 : Nat))), some (.inl w), some (.inl a), some (.inl b), some (.inl c), none] [] (A, B, Y, K, T) (qV Q)) ∧ (w = (6 : Int) → pq d 23 155 [some (.inr (.inr (39 : Nat))), some (.inl w), some (.inl a), some (.inl b), some (.inl c), none] [] (A, B, Y, K, T) (qV Q)) ∧ (w = (7 : Int) → pq d 23 168 [some (.inr (.inr (39 : Nat))), some (.inl w), some (.inl a), some (.inl b), some (.inl c), none] [] (A, B, Y, K, T) (qV Q)) ∧ (w = (8 : Int) → pq d 23 189 [some (.inr (.inr (39 : Nat))), some (.inl w), some (.inl a), some (.inl b), some (.inl c), none] [] (A, B, Y, K, T) (qV Q)) ∧ (w = (9 : Int) → pq d 23 197 [some (.inr (.inr (39 : Nat))), some (.inl w), some (.inl a), some (.inl b), some (.inl c), none] [] (A, B, Y, K, T) (qV Q)) ∧ (w = (10 : Int) → pq d 23 210 [some (.inr (.inr (39 : Nat))), some (.inl w), some (.inl a), some (.inl b), some (.inl c), none] [] (A, B, Y, K, T) (qV Q)) ∧ (w = (11 : Int) → pq d 23 231 [some (.inr (.inr (39 : Nat))), some (.inl w), some (.inl a), some (.inl b), some (.inl c), none] [] (A, B, Y, K, T) (qV Q)) ∧ True)
  refine ⟨by omega, fun z => ?_, fun z => ?_, fun z => ?_, fun z => ?_, fun z => ?_, fun z => ?_, fun z => ?_, fun z => ?_, fun z => ?_, fun z => ?_, fun z => ?_, fun z => ?_, trivial⟩
  · obtain rfl : w = 12 := by omega
    exact t_12 hd h hw ho hp hm hq
  · subst z
    exact t_1 hd h hw ho hp hm hq
  · subst z
    exact t_2 hd h hw ho hp hm hq
  · subst z
    exact t_3 hd h hw ho hp hm hq
  · subst z
    exact t_4 hd h hw ho hp hm hq
  · subst z
    exact t_5 hd h hw ho hp hm hq
  · subst z
    exact t_6 hd h hw ho hp hm hq
  · subst z
    exact t_7 hd h hw ho hp hm hq
  · subst z
    exact t_8 hd h hw ho hp hm hq
  · subst z
    exact t_9 hd h hw ho hp hm hq
  · subst z
    exact t_10 hd h hw ho hp hm hq
  · subst z
    exact t_11 hd h hw ho hp hm hq
set_option maxRecDepth 100000 in
set_option maxHeartbeats 400000 in
theorem h_expressions (hd : 20 ≤ d) (h : PZ B0 B Y st ((w, a, b, c, e) :: st) cur op fr fr N F tp ow tk sc tm E ht rg bk) (hw : WT ((w, a, b, c, e) :: st) cur op) (ho : op ≤ 10) (hp : N + PD ((w, a, b, c, e) :: st) ≤ 3 * fr + 2) (hm : 64 * (3001 - fr) + SW ((w, a, b, c, e) :: st) ≤ m) (hq : HQ B0 m A K T Q) (w13 : 13 ≤ w) : pzV d 24 [.inr (.inr 39), .inl w, .inl a, .inl b, .inl c, .inl e] (A, B, Y, K, T) Q := by
  have w1 : w ≤ 29 := WT_w2 hw
  refine pzV_of 2 [(80, []), (112, []), (132, []), (139, []), (172, []), (187, []), (194, []), (211, []), (253, []), (297, []), (305, []), (375, []), (382, []), (403, []), (422, []), (442, []), (464, [])] [] ?_
  show ((-2147483648 ≤ w ∧ w < 2147483648) ∧ ((w < (13 : Int) ∨ (28 : Int) < w) → pq d 24 464 [some (.inr (.inr (39 : Nat))), some (.inl w), some (.inl a), some (.inl b), some (.inl c), some (.inl e), none] [] (A, B, Y, K, T) (qV Q)) ∧ (w = (13 : Int) → pq d 24 80 [some (.inr (.inr (39 : Nat))), some (.inl w), some (.inl a), some (.inl b), some (.inl c), some (.inl e), none] [] (A, B, Y, K, T) (qV Q)) ∧ (w = (14 : Int) → pq d 24 112 [some (.inr (.inr (39 : Nat))), some (.inl w), some (.inl a), some (.inl b), some (.inl c), some (.inl e), none] [] (A, B, Y, K, T) (qV Q)) ∧ (w = (15 : Int) → pq d 24 132 [some (.inr (.inr (39 : Nat))), some (.inl w), some (.inl a), some (.inl b), some (.inl c), some (.inl e), none] [] (A, B, Y, K, T) (qV Q)) ∧ (w = (16 : Int) → pq d 24 139 [some (.inr (.inr (39 : Nat))), some (.inl w), some (.inl a), some (.inl b), some (.inl c), some (.inl e), none] [] (A, B, Y, K, T) (qV Q)) ∧ (w = (17 : Int) → pq d 24 172 [some (.inr (.inr (39 : Nat))), some (.inl w), some (.inl a), some (.inl b), some (.inl c), some (.inl e), none] [] (A, B, Y, K, T) (qV Q)) ∧ (w = (18 : Int) → pq d 24 187 [some (.inr (.inr (39 : Nat))), some (.inl w), some (.inl a), some (.inl b), some (.inl c), some (.inl e), none] [] (A, B, Y, K, T) (qV Q)) ∧ (w = (19 : Int) → pq d 24 194 [some (.inr (.inr (39 : Nat))), some (.inl w), some (.inl a), some (.inl b), some (.inl c), some (.inl e), none] [] (A, B, Y, K, T) (qV Q)) ∧ (w = (20 : Int) → pq d 24 211 [some (.inr (.inr (39 : Nat))), some (.inl w), some (.inl a), some (.inl b), some (.inl c), some (.inl e), none] [] (A, B, Y, K, T) (qV Q)) ∧ (w = (21 : Int) → pq d 24 253 [some (.inr (.inr (39 : Nat))), some (.inl w), some (.inl a), some (.inl b), some (.inl c), some (.inl e), none] [] (A, B, Y, K, T) (qV Q)) ∧ (w = (22 : Int) → pq d 24 297 [some (.inr (.inr (39 : Nat))), some (.inl w), some (.inl a), some (.inl b), some (.inl c), some (.inl e), none] [] (A, B, Y, K, T) (qV Q)) ∧ (w = (23 : Int) → pq d 24 305 [some (.inr (.inr (39 : Nat))), some (.inl w), some (.inl a), some (.inl b), some (.inl c), some (.inl e), none] [] (A, B, Y, K, T) (qV Q)) ∧ (w = (24 : Int) → pq d 24 375 [some (.inr (.inr (39 : Nat))), some (.inl w), some (.inl a), some (.inl b), some (.inl c), some (.inl e), none] [] (A, B, Y, K, T) (qV Q)) ∧ (w = (25 : Int) → pq d 24 382 [some (.inr (.inr (39 : Nat))), some (.inl w), some (.inl a), some (.inl b), some (.inl c), some (.inl e), none] [] (A, B, Y, K, T) (qV Q)) ∧ (w = (26 : Int) → pq d 24 403 [some (.inr (.inr (39 : Nat))), some (.inl w), some (.inl a), some (.inl b), some (.inl c), some (.inl e), none] [] (A, B, Y, K, T) (qV Q)) ∧ (w = (27 : Int) → pq d 24 422 [some (.inr (.inr (39 : Nat))), some (.inl w), some (.inl a), some (.inl b), some (.inl c), some (.inl e), none] [] (A, B, Y, K, T) (qV Q)) ∧ (w = (28 : Int) → pq d 24 442 [some (.inr (.inr (39 : Nat))), some (.inl w), some (.inl a), some (.inl b), some (.inl c), some (.inl e), none] [] (A, B, Y, K, T) (qV Q)) ∧ True)
  refine ⟨by omega, fun z => ?_, fun z => ?_, fun z => ?_, fun z => ?_, fun z => ?_, fun z => ?_, fun z => ?_, fun z => ?_, fun z => ?_, fun z => ?_, fun z => ?_, fun z => ?_, fun z => ?_, fun z => ?_, fun z => ?_, fun z => ?_, fun z => ?_, trivial⟩
  · obtain rfl : w = 29 := by omega
    exact t_29 hd h hw ho hp hm hq
  · subst z
    exact t_13 hd h hw ho hp hm hq
  · subst z
    exact t_14 hd h hw ho hp hm hq
  · subst z
    exact t_15 hd h hw ho hp hm hq
  · subst z
    exact t_16 hd h hw ho hp hm hq
  · subst z
    exact t_17 hd h hw ho hp hm hq
  · subst z
    exact t_18 hd h hw ho hp hm hq
  · subst z
    exact t_19 hd h hw ho hp hm hq
  · subst z
    exact t_20 hd h hw ho hp hm hq
  · subst z
    exact t_21 hd h hw ho hp hm hq
  · subst z
    exact t_22 hd h hw ho hp hm hq
  · subst z
    exact t_23 hd h hw ho hp hm hq
  · subst z
    exact t_24 hd h hw ho hp hm hq
  · subst z
    exact t_25 hd h hw ho hp hm hq
  · subst z
    exact t_26 hd h hw ho hp hm hq
  · subst z
    exact t_27 hd h hw ho hp hm hq
  · subst z
    exact t_28 hd h hw ho hp hm hq
end ROWS
section GOON
variable {d : Nat} {A B0 B Y : zF} {K : Nat} {T : zT} {st : List zE} {cur op fr N F tp ow tk sc tm w a b c e : Int} {E ht rg bk : Nat → Int} {Q : zF → zF → zF → Nat → zT → Prop}
theorem wtw_0 (h : w = 21 → 0 ≤ a ∧ a ≤ 8) : 0 ≤ wtw w a := by
  unfold wtw
  split
  · have := h (by assumption)
    omega
  · split
    · omega
    · split
      · omega
      · split
        · omega
        · split
          · omega
          · split <;> omega
theorem SW_0 {o fb pr : Nat → Int} : ∀ {st : List zE}, TD F tp N tm ow o fb pr ht rg bk st → 0 ≤ SW st := by
  intro st
  induction st with
  | nil => intro _; exact Int.le_refl 0
  | cons x st ih =>
    intro h
    have h1 := ih (TD_tl h)
    have h2 := wtw_0 (h x List.mem_cons_self).2.2.2.2.2.2.2.2.2.1
    show 0 ≤ wtw x.1 x.2.1 + SW st
    omega
theorem PZ_pop (h : PZ B0 B Y ((w, a, b, c, e) :: st) ((w, a, b, c, e) :: st) cur op fr fr N F tp ow tk sc tm E ht rg bk) : PZ B0 (zu B 39 58 ((B 39 58) - 1)) Y st ((w, a, b, c, e) :: st) cur op fr fr N F tp ow tk sc tm E ht rg bk ∧ ((B 39 58) - 1).toNat = st.length ∧ (0 ≤ (B 39 58) - 1 ∧ (B 39 58) - 1 < 2000) ∧ (B 69) st.length = w ∧ (B 70) st.length = a ∧ (B 71) st.length = b ∧ (B 72) st.length = c ∧ (B 73) st.length = e := by
  obtain ⟨a1, a2, a3, a4, ⟨f1, f2, f3, f4, f5, f6, f7, f8, f9, f10, f11⟩, a5, a6, a7, a8, ⟨s1, ⟨⟨k1, k2, k3, k4, k5⟩, s2⟩, s3⟩, a10, a11⟩ := h
  have s1' : (B 39 58) = ((st.length + 1 : Nat) : Int) := s1
  have s3' : st.length + 1 ≤ 2000 := s3
  exact ⟨⟨FR_tr a1 (FR_rf _), a2, a3, a4, ⟨f1, f2, f3, f4, f5, f6, f7, f8, f9, f10, f11⟩, a5, a6, a7, a8, ⟨by show (B 39 58) - 1 = _; omega, s2, by omega⟩, a10, a11⟩, by omega, by omega, k1, k2, k3, k4, k5⟩
set_option maxRecDepth 100000 in
set_option maxHeartbeats 400000 in
theorem h_goOn (hd : 22 ≤ d) (qF : ∀ B Y on tn, PF B0 B Y on tn → Q A B Y K T) (qE : ∀ B Y, PE B0 B Y → Q A B Y K T) : ∀ (r : Nat) B Y st cur op fr N F tp ow tk sc tm E ht rg bk, PZ B0 B Y st st cur op fr fr N F tp ow tk sc tm E ht rg bk → WT st cur op → N + PD st ≤ 3 * fr + 2 → op ≤ 10 → 64 * (3001 - fr) + SW st < (r : Int) → pq d 22 0 [some (.inr (.inr 39)), none, none, none, none, none] [] (A, B, Y, K, T) (qV Q) := by
  have j0f : ∀ B Y on tn, PF B0 B Y on tn → pq d 22 0 [some (.inr (.inr 39)), none, none, none, none, none] [] (A, B, Y, K, T) (qV Q) := by
    intro B Y on tn f1
    have g := PF_eq f1
    refine pq_of 7 [(14, [])] [] ?_
    show ((-2147483648 ≤ (B 39 58) ∧ (B 39 58) < 2147483648) ∧ ((B 39 58) ≤ (0 : Int) → Q A B Y K T) ∧ ((0 : Int) < (B 39 58) → ((-2147483648 ≤ (B 39 10) ∧ (B 39 10) < 2147483648) ∧ ((B 39 10) ≠ (0 : Int) → Q A B Y K T) ∧ ((B 39 10) = (0 : Int) → pq d 22 14 [some (.inr (.inr (39 : Nat))), none, none, none, none, none] [] (A, B, Y, K, T) (qV Q)))))
    exact ⟨by omega, fun _ => qF _ _ _ _ f1, fun _ => ⟨by omega, fun _ => qF _ _ _ _ f1, fun z => absurd z (by omega)⟩⟩
  have j0e : ∀ B Y, PE B0 B Y → pq d 22 0 [some (.inr (.inr 39)), none, none, none, none, none] [] (A, B, Y, K, T) (qV Q) := by
    intro B Y f1
    obtain ⟨-, -, ⟨g1, g2, g3⟩, -⟩ := id f1
    refine pq_of 7 [(14, [])] [] ?_
    show ((-2147483648 ≤ (B 39 58) ∧ (B 39 58) < 2147483648) ∧ ((B 39 58) ≤ (0 : Int) → Q A B Y K T) ∧ ((0 : Int) < (B 39 58) → ((-2147483648 ≤ (B 39 10) ∧ (B 39 10) < 2147483648) ∧ ((B 39 10) ≠ (0 : Int) → Q A B Y K T) ∧ ((B 39 10) = (0 : Int) → pq d 22 14 [some (.inr (.inr (39 : Nat))), none, none, none, none, none] [] (A, B, Y, K, T) (qV Q)))))
    exact ⟨by omega, fun _ => qE _ _ f1, fun z => absurd z (by omega)⟩
  intro r
  induction r with
  | zero =>
    intro B Y st cur op fr N F tp ow tk sc tm E ht rg bk h hw hp ho hm
    have := (PZ_tk h).1
    have := SW_0 h.2.2.2.2.2.2.2.2.2.2.2
    omega
  | succ r ih =>
    intro B Y st cur op fr N F tp ow tk sc tm E ht rg bk h hw hp ho hm
    have e0 := PZ_eq h
    have wl := WT_len hw
    cases st with
    | nil => exact hw.elim
    | cons x st =>
    obtain ⟨w, a, b, c, e⟩ := x
    obtain ⟨h1, k0, k1, k2, k3, k4, k5, k6⟩ := PZ_pop h
    have w1 := WT_w hw
    have w2 := WT_w2 hw
    have hq : HQ B0 (64 * (3001 - fr) + SW ((w, a, b, c, e) :: st)) A K T (fun A B Y K T => pq d 22 0 [some (.inr (.inr 39)), none, none, none, none, none] [] (A, B, Y, K, T) (qV Q)) := ⟨j0f, fun B Y st cur op fr N F tp ow tk sc tm E ht rg bk h hw hp ho hm2 => ih B Y st cur op fr N F tp ow tk sc tm E ht rg bk h hw hp ho (by omega), j0e⟩
    refine pq_of 53 [(0, [1, 2, 3, 4, 5])] [] ?_
    show ((-2147483648 ≤ (B 39 58) ∧ (B 39 58) < 2147483648) ∧ ((B 39 58) ≤ (0 : Int) → Q A B Y K T) ∧ ((0 : Int) < (B 39 58) → ((-2147483648 ≤ (B 39 10) ∧ (B 39 10) < 2147483648) ∧ ((B 39 10) ≠ (0 : Int) → Q A B Y K T) ∧ ((B 39 10) = (0 : Int) → ((0 ≤ ((B 39 58) - (1 : Int)) ∧ ((B 39 58) - (1 : Int)) < (2000 : Int)) ∧ ((0 ≤ ((B 39 58) - (1 : Int)) ∧ ((B 39 58) - (1 : Int)) < (2000 : Int)) ∧ ((0 ≤ ((B 39 58) - (1 : Int)) ∧ ((B 39 58) - (1 : Int)) < (2000 : Int)) ∧ ((0 ≤ ((B 39 58) - (1 : Int)) ∧ ((B 39 58) - (1 : Int)) < (2000 : Int)) ∧ ((0 ≤ ((B 39 58) - (1 : Int)) ∧ ((B 39 58) - (1 : Int)) < (2000 : Int)) ∧ ((-2147483648 ≤ (B 69 (((B 39 58) - (1 : Int))).toNat) ∧ (B 69 (((B 39 58) - (1 : Int))).toNat) < 2147483648) ∧ (-2147483648 ≤ (13 : Int) ∧ (13 : Int) < 2147483648) ∧ ((13 : Int) ≤ (B 69 (((B 39 58) - (1 : Int))).toNat) → (0 < d ∧ pzV (d - 1) 24 [.inr (.inr (39 : Nat)), .inl (B 69 (((B 39 58) - (1 : Int))).toNat), .inl (B 70 (((B 39 58) - (1 : Int))).toNat), .inl (B 71 (((B 39 58) - (1 : Int))).toNat), .inl (B 72 (((B 39 58) - (1 : Int))).toNat), .inl (B 73 (((B 39 58) - (1 : Int))).toNat)] (A, (zu B 39 58 ((B 39 58) - (1 : Int))), Y, K, T) (fun Av1 Bv1 Yv1 Kv1 Tv1 => pq d 22 0 [some (.inr (.inr (39 : Nat))), none, none, none, none, none] [] (Av1, Bv1, Yv1, Kv1, Tv1) (qV Q)))) ∧ ((B 69 (((B 39 58) - (1 : Int))).toNat) < (13 : Int) → (0 < d ∧ pzV (d - 1) 23 [.inr (.inr (39 : Nat)), .inl (B 69 (((B 39 58) - (1 : Int))).toNat), .inl (B 70 (((B 39 58) - (1 : Int))).toNat), .inl (B 71 (((B 39 58) - (1 : Int))).toNat), .inl (B 72 (((B 39 58) - (1 : Int))).toNat)] (A, (zu B 39 58 ((B 39 58) - (1 : Int))), Y, K, T) (fun Av2 Bv2 Yv2 Kv2 Tv2 => pq d 22 0 [some (.inr (.inr (39 : Nat))), none, none, none, none, none] [] (Av2, Bv2, Yv2, Kv2, Tv2) (qV Q))))))))))))))
    rw [k0, k2, k3, k4, k5, k6]
    exact ⟨by omega, fun z => absurd z (by omega), fun _ => ⟨by omega, fun z => absurd e0.1 z, fun _ => ⟨k1, k1, k1, k1, k1, by omega, by omega, fun z => ⟨by omega, h_expressions (by omega) h1 hw ho hp (Int.le_refl _) hq z⟩, fun z => ⟨by omega, h_rows (by omega) h1 hw ho hp (Int.le_refl _) hq z⟩⟩⟩⟩
end GOON
