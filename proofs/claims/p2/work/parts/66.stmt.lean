/-! The model's parser: statements -/
section STM
variable {d : Nat} {A B0 B Y : zF} {K : Nat} {T : zT} {st vs vs' : List zE} {cur op fr fc N F tp ow tk sc tm m on tn : Int} {E ht rg bk : Nat → Int} {Q : zF → zF → zF → Nat → zT → Prop}
theorem PZ_perm (h : PZ B0 B Y st vs cur op fr fc N F tp ow tk sc tm E ht rg bk) (hv : ∀ e, e ∈ vs ↔ e ∈ vs') : PZ B0 B Y st vs' cur op fr fc N F tp ow tk sc tm E ht rg bk := by
  obtain ⟨a1, a2, a3, a4, a5, a6, a7, a8, a9, a10, a11, a12⟩ := h
  refine ⟨a1, a2, a3, a4, a5, a6, a7, a8, a9, a10, CT_pn a11 (fun p hp => ?_), fun x hx => a12 x ((hv x).mpr hx)⟩
  obtain ⟨x, hx, h1⟩ := hp
  exact ⟨x, (hv x).mp hx, h1⟩
/-- a task is put on the pile whose jump is not said yet -/
theorem PZ_push0 (h : PZ B0 B Y st vs cur op fr fc N F tp ow tk sc tm E ht rg bk) (hn : st.length < 2000) (w a b c e : Int) : PZ B0 (mW B st.length w a b c e) Y ((w, a, b, c, e) :: st) vs cur op fr fc N F tp ow tk sc tm E ht rg bk := by
  obtain ⟨a1, a2, a3, a4, ⟨f1, f2, f3, f4, f5, f6, f7, f8, f9, f10, f11⟩, a5, a6, a7, a8, a9, a10, a11⟩ := h
  exact ⟨FR_tr a1 (FR_rf _), a2, a3, a4, ⟨f1, f2, f3, f4, f5, f6, f7, f8, f9, f10, f11⟩, a5, a6, a7, a8, skk_push a9 hn w a b c e, a10, a11⟩
theorem z_wait0 {w a b c e : Int} (h : PZ B0 B Y st vs cur op fr fc N F tp ow tk sc tm E ht rg bk) (hn : st.length < 2000) (q : ∀ B', PZ B0 B' Y ((w, a, b, c, e) :: st) vs cur op fr fc N F tp ow tk sc tm E ht rg bk → Q A B' Y K T) : pzV d 20 [.inr (.inr 39), .inl w, .inl a, .inl b, .inl c, .inl e] (A, B, Y, K, T) Q :=
  m_wait (PZ_eq h).2.2.2.2.2.2.2.2.2.2.2 hn (q _ (PZ_push0 h hn w a b c e))
theorem f_forbid {w p : Int} (h : PF B0 B Y on tn) (hw : -2147483648 ≤ w ∧ w < 2147483648) (hp : -2147483648 ≤ p ∧ p < 2147483648) (q : ∀ B', PF B0 B' Y on tn → Q A B' Y K T) : pzV d 12 [.inr (.inr 39), .inl w, .inl p] (A, B, Y, K, T) Q := by
  obtain ⟨b1, b2, b3, b4, b5, b6, b7, b8, b9, b10⟩ := h
  exact m_forbid b10.1 b10.2.1 hw hp (fun x y hx hy => q _ ⟨FR_tr b1 (FR_rf _), b2, b3, b4, b5, b6, b7, b8, b9, ⟨hx, hy, b10.2.2⟩⟩)
theorem f_deeper (hd : 1 ≤ d) (h : PF B0 B Y on tn) (ho : -2147483648 ≤ (B 39 20) ∧ (B 39 20) < 2147483647) (q : ∀ B', PF B0 B' Y on tn → Q A B' Y K T) : pzV d 16 [.inr (.inr 39)] (A, B, Y, K, T) Q := by
  have g := PF_eq h
  obtain ⟨b1, b2, b3, b4, b5, ⟨b6, b7, b8⟩, b10⟩ := h
  exact m_deeper hd b5 (by omega) ho (fun x x1 x2 _ => q _ ⟨FR_tr b1 (FR_rf _), b2, b3, b4, ⟨by show 0 ≤ x; omega, x2⟩, ⟨by show x ≠ 0; omega, b7, b8⟩, b10⟩) (fun _ => q _ ⟨FR_tr b1 (FR_rf _), b2, b3, b4, b5, ⟨b6, b7, b8⟩, b10⟩)
set_option maxRecDepth 100000 in
set_option maxHeartbeats 4000000 in
theorem h_block (hd : 8 ≤ d) (h : PZ B0 B Y st st cur op fr fr N F tp ow tk sc tm E ht rg bk) (hc : cur = 0) (hw : WT st 0 op) (hn : (st.length : Int) ≤ 20 * op - 13) (ho : 1 ≤ op ∧ op ≤ 10) (hp : N + PD st ≤ 3 * fr + 4) (hm : 64 * (3001 - fr) + SW st ≤ m + 50) (hq : HQ B0 m A K T Q) : pzV d 31 [.inr (.inr 39)] (A, B, Y, K, T) Q := by
  obtain ⟨p1, p2, p3, p4, p5, p6, p7, p8⟩ := PZ_tk h
  have e := PZ_eq h
  have wl := WT_len hw
  have pd0 := PD_0 st
  refine pzV_of 10 [] [] ?_
  show (0 < d ∧ pzV (d - 1) 11 [.inr (.inr (39 : Nat)), .inl (123 : Int)] (A, B, Y, K, T) (fun Av1 Bv1 Yv1 Kv1 Tv1 => (0 < d ∧ pzV (d - 1) 21 [.inr (.inr (39 : Nat)), .inl (12 : Int)] (Av1, Bv1, Yv1, Kv1, Tv1) (fun Av2 Bv2 Yv2 Kv2 Tv2 => (0 < d ∧ pzV (d - 1) 21 [.inr (.inr (39 : Nat)), .inl (5 : Int)] (Av2, Bv2, Yv2, Kv2, Tv2) (fun Av3 Bv3 Yv3 Kv3 Tv3 => Q Av3 Bv3 Yv3 Kv3 Tv3))))))
  refine ⟨by omega, z_must (by omega) h (by omega) (by omega) (fun B1 f1 => ⟨by omega, f_plain (by omega) f1 (by omega) (fun B2 f2 => ⟨by omega, f_plain (by omega) f2 (by omega) (fun B3 f3 => hq.1 _ _ _ _ f3)⟩)⟩) (fun B1 Y1 f k z g1 g2 h1 s1 => ⟨by omega, z_plain (by omega) h1 (by omega) (td_0 (by omega)) (fun B2 h2 s2 => ⟨by omega, z_plain (by omega) h2 (by simp only [List.length_cons, true_and, and_true]; omega) (td_0 (by omega)) (fun B3 h3 s3 => ?_)⟩)⟩)⟩
  have g3 := g2 (by omega)
  exact hq.2.1 _ _ _ _ _ _ _ _ _ _ _ _ _ _ _ _ _ h3 (WT_c2 (tt_5 (by simp only [List.length_cons, true_and, and_true]; omega)) (WT_c2 (tt_12 (by omega)) hw (by omega) (by omega)) rfl rfl) (by first | omega | (simp only [PD_1, SW_1, PD_2, SW_2, PD_3, SW_3, PD_4, SW_4, PD_5, SW_5, PD_6, SW_6, PD_7, SW_7, PD_8, SW_8, PD_9, SW_9, PD_10, SW_10, PD_11, SW_11, PD_12, SW_12, PD_13, SW_13, PD_14, SW_14, PD_15, SW_15, PD_16, SW_16, PD_17, SW_17, PD_18, SW_18, PD_19, SW_19, PD_20, SW_20, PD_21, SW_21, PD_22, SW_22, PD_23, SW_23, PD_24, SW_24, PD_25, SW_25, PD_26, SW_26, PD_27, SW_27, PD_28, SW_28, PD_29, SW_29]; omega)) (by omega) (by first | omega | (simp only [PD_1, SW_1, PD_2, SW_2, PD_3, SW_3, PD_4, SW_4, PD_5, SW_5, PD_6, SW_6, PD_7, SW_7, PD_8, SW_8, PD_9, SW_9, PD_10, SW_10, PD_11, SW_11, PD_12, SW_12, PD_13, SW_13, PD_14, SW_14, PD_15, SW_15, PD_16, SW_16, PD_17, SW_17, PD_18, SW_18, PD_19, SW_19, PD_20, SW_20, PD_21, SW_21, PD_22, SW_22, PD_23, SW_23, PD_24, SW_24, PD_25, SW_25, PD_26, SW_26, PD_27, SW_27, PD_28, SW_28, PD_29, SW_29]; omega))
set_option maxRecDepth 100000 in
set_option maxHeartbeats 4000000 in
theorem h_branch {p : Int} {x : zE} {Q : Int → zF → zF → zF → Nat → zT → Prop} (hd : 4 ≤ d) (h : PZ B0 B Y st vs cur op fr fc N F tp ow tk sc tm E ht rg bk) (hN : N < 11990) (hc : cur = 1) (hpi : -2147483648 ≤ p ∧ p < 2147483648) (hx : x.1 = 8 ∨ x.1 = 11) (hx1 : x.2.1 = N) (hxb : x.1 = 11 → (1 ≤ x.2.2.1 ∧ x.2.2.1 ≤ tm) ∧ ht x.2.2.1.toNat = 0 ∧ rg x.2.2.1.toNat = F ∧ bk x.2.2.1.toNat = 0) (q : ∀ B' ht' rg' bk', PZ B0 B' Y st (x :: vs) 0 op fr fc (N + 1) F tp ow tk sc tm E ht' rg' bk' → Q N A B' Y K T) : pzI d 30 [.inr (.inr 39), .inl p] (A, B, Y, K, T) Q := by
  obtain ⟨p1, p2, p3, p4, p5, p6, p7, p8⟩ := PZ_tk h
  have e := PZ_eq h
  have j14 : ∀ B1, PZ B0 B1 Y st vs cur op fr fc N F tp ow tk sc tm E ht rg bk → pq d 30 14 [some (.inr (.inr 39)), some (.inl p)] [] (A, B1, Y, K, T) (qI Q) := by
    intro B1 h1
    have e1 := PZ_eq h1
    refine pq_of 10 [] [] ?_
    show (0 < d ∧ pzV (d - 1) 15 [.inr (.inr (39 : Nat)), .inl (14 : Int), .inl (0 : Int), .inl p] (A, B1, Y, K, T) (fun Av1 Bv1 Yv1 Kv1 Tv1 => Q ((Bv1 39 38) - (1 : Int)) Av1 Bv1 Yv1 Kv1 Tv1))
    refine ⟨by omega, m_say (by omega) (by omega) ?_⟩
    have key := PZ_jmp (w := 14) (a := 0) (b := p) h1 (Or.inl ⟨rfl, hc⟩) (x := x) ⟨by omega, hx1⟩ (fun o' ht' rg' bk' w1 w2 w3 w4 => ?_)
    · have e2 : (B1 39 38) + 1 - 1 = N := by omega
      have q2 := q _ _ _ _ key
      rw [← e2] at q2
      exact q2
    · refine ⟨?_, ?_, ?_, ?_, ?_, ?_, ?_, ?_, ?_, ?_, ?_, ?_, ?_, ?_⟩ <;> intro z <;> first | omega | skip
      · rw [hx1]
        exact ⟨by omega, w1, w2, w3⟩
      · obtain ⟨⟨b1, b2⟩, b3, b4, b5⟩ := hxb (by omega)
        obtain ⟨v1, v2, v3⟩ := w4 x.2.2.1.toNat (by omega) (by omega)
        rw [v1, v2, v3]
        exact ⟨⟨b1, b2⟩, b3, b4, b5⟩
  refine pzI_of 7 [(14, [])] [] ?_
  show ((-2147483648 ≤ (B 39 42) ∧ (B 39 42) < 2147483648) ∧ ((B 39 42) = (0 : Int) → pq d 30 14 [some (.inr (.inr (39 : Nat))), some (.inl p)] [] (A, B, Y, K, T) (qI Q)) ∧ ((B 39 42) ≠ (0 : Int) → (0 < d ∧ pzV (d - 1) 12 [.inr (.inr (39 : Nat)), .inl (6 : Int), .inl p] (A, B, Y, K, T) (fun Av1 Bv1 Yv1 Kv1 Tv1 => pq d 30 14 [some (.inr (.inr (39 : Nat))), some (.inl p)] [] (Av1, Bv1, Yv1, Kv1, Tv1) (qI Q)))))
  exact ⟨by omega, fun _ => j14 B h, fun _ => ⟨by omega, z_forbid h (by omega) hpi (fun B1 h1 s1 => j14 B1 h1)⟩⟩
set_option maxRecDepth 100000 in
set_option maxHeartbeats 4000000 in
theorem h_ifDone {b c1 c2 c3 : Int} (hd : 10 ≤ d) (h : PZ B0 B Y st ((8, b, c1, c2, c3) :: st) cur op fr fr N F tp ow tk sc tm E ht rg bk) (hc : cur = 0) (hw : WT st 0 op) (hn : (st.length : Int) ≤ 20 * op - 14) (ho : 1 ≤ op ∧ op ≤ 10) (hp : N + PD st ≤ 3 * fr + 2) (hm : 64 * (3001 - fr) + SW st + 1 ≤ m) (hq : HQ B0 m A K T Q) : pzV d 32 [.inr (.inr 39), .inl b] (A, B, Y, K, T) Q := by
  obtain ⟨p1, p2, p3, p4, p5, p6, p7, p8⟩ := PZ_tk h
  have e := PZ_eq h
  have wl := WT_len hw
  have pd0 := PD_0 st
  have hb : 1 ≤ b ∧ b < N := by
    obtain ⟨-, -, -, -, -, -, -, -, -, -, -, hTD⟩ := id h
    exact ((hTD _ List.mem_cons_self).2.2.1 (Or.inl rfl)).1
  refine pzV_of 26 [] [] ?_
  show (0 < d ∧ pzI (d - 1) 10 [.inr (.inr (39 : Nat)), .inl (9 : Int)] (A, B, Y, K, T) (fun nv1 Av1 Bv1 Yv1 Kv1 Tv1 => ((-2147483648 ≤ nv1 ∧ nv1 < 2147483648) ∧ (nv1 ≠ (0 : Int) → (0 < d ∧ pzV (d - 1) 20 [.inr (.inr (39 : Nat)), .inl (9 : Int), .inl (Bv1 39 38), .inl (0 : Int), .inl (0 : Int), .inl (0 : Int)] (Av1, Bv1, Yv1, Kv1, Tv1) (fun Av2 Bv2 Yv2 Kv2 Tv2 => (0 < d ∧ pzV (d - 1) 15 [.inr (.inr (39 : Nat)), .inl (15 : Int), .inl (0 : Int), .inl (0 : Int)] (Av2, Bv2, Yv2, Kv2, Tv2) (fun Av3 Bv3 Yv3 Kv3 Tv3 => ((0 ≤ b ∧ b < (12000 : Int)) ∧ (0 < d ∧ pzV (d - 1) 31 [.inr (.inr (39 : Nat))] (Av3, (zu Bv3 59 (b).toNat (Bv3 39 38)), Yv3, Kv3, Tv3) (fun Av4 Bv4 Yv4 Kv4 Tv4 => Q Av4 Bv4 Yv4 Kv4 Tv4)))))))) ∧ (nv1 = (0 : Int) → ((0 ≤ b ∧ b < (12000 : Int)) ∧ Q Av1 (zu Bv1 59 (b).toNat (Bv1 39 38)) Yv1 Kv1 Tv1)))))
  refine ⟨by omega, z_meets (by omega) h (by omega) (fun z => ⟨by omega, fun w => absurd rfl w, fun _ => ⟨by omega, ?_⟩⟩) (fun B1 Y1 f k z g1 g2 h1 s1 => ⟨by omega, fun _ => ⟨by omega, ?_⟩, fun w => absurd w (by omega)⟩)⟩
  · have h2 := PZ_patch (a := b) h rfl (Or.inr (Or.inl rfl)) hc
    rw [e.2.2.2.1]
    subst hc
    exact hq.2.1 _ _ _ _ _ _ _ _ _ _ _ _ _ _ _ _ _ h2 hw (by first | omega | (simp only [PD_1, SW_1, PD_2, SW_2, PD_3, SW_3, PD_4, SW_4, PD_5, SW_5, PD_6, SW_6, PD_7, SW_7, PD_8, SW_8, PD_9, SW_9, PD_10, SW_10, PD_11, SW_11, PD_12, SW_12, PD_13, SW_13, PD_14, SW_14, PD_15, SW_15, PD_16, SW_16, PD_17, SW_17, PD_18, SW_18, PD_19, SW_19, PD_20, SW_20, PD_21, SW_21, PD_22, SW_22, PD_23, SW_23, PD_24, SW_24, PD_25, SW_25, PD_26, SW_26, PD_27, SW_27, PD_28, SW_28, PD_29, SW_29]; omega)) (by omega) (by first | omega | (simp only [PD_1, SW_1, PD_2, SW_2, PD_3, SW_3, PD_4, SW_4, PD_5, SW_5, PD_6, SW_6, PD_7, SW_7, PD_8, SW_8, PD_9, SW_9, PD_10, SW_10, PD_11, SW_11, PD_12, SW_12, PD_13, SW_13, PD_14, SW_14, PD_15, SW_15, PD_16, SW_16, PD_17, SW_17, PD_18, SW_18, PD_19, SW_19, PD_20, SW_20, PD_21, SW_21, PD_22, SW_22, PD_23, SW_23, PD_24, SW_24, PD_25, SW_25, PD_26, SW_26, PD_27, SW_27, PD_28, SW_28, PD_29, SW_29]; omega))
  · have g3 := g2 (by omega)
    have e1 := PZ_eq h1
    rw [e1.2.2.2.1]
    refine z_wait0 h1 (by omega) (fun B2 h2 => ⟨by omega, m_say (by have := PZ_eq h2; omega) (by have := PZ_eq h2; omega) ?_⟩)
    have e2 := PZ_eq h2
    have h3 := PZ_jmp (w := 15) (a := 0) (b := 0) h2 (Or.inr ⟨rfl, hc⟩) (x := (9, N, 0, 0, 0)) ⟨by omega, rfl⟩ (fun o' ht' rg' bk' w1 w2 w3 w4 => ?_)
    · have h4 := PZ_patch (x := (8, b, c1, c2, c3)) (a := b) (PZ_perm (vs' := (8, b, c1, c2, c3) :: (9, N, 0, 0, 0) :: st) h3 (fun x => by simp only [List.mem_cons]; exact ⟨fun z => by rcases z with z | z | z <;> simp [z], fun z => by rcases z with z | z | z <;> simp [z]⟩)) rfl (Or.inr (Or.inl rfl)) rfl
      refine ⟨by omega, by omega, ?_⟩
      have eo : (zu (zu (zu (zu B2 58 (B2 39 38).toNat 15) 59 (B2 39 38).toNat 0) 60 (B2 39 38).toNat 0) 39 38 ((B2 39 38) + 1)) 39 38 = N + 1 := by
        show (B2 39 38) + 1 = N + 1
        omega
      rw [show (B2 39 38) + 1 = N + 1 by omega] at h4 ⊢
      exact h_block (by omega) h4 rfl (WT_c2 (tt_9 (by omega)) hw (by omega) (by omega)) (by simp only [List.length_cons, true_and, and_true]; omega) ho (by first | omega | (simp only [PD_1, SW_1, PD_2, SW_2, PD_3, SW_3, PD_4, SW_4, PD_5, SW_5, PD_6, SW_6, PD_7, SW_7, PD_8, SW_8, PD_9, SW_9, PD_10, SW_10, PD_11, SW_11, PD_12, SW_12, PD_13, SW_13, PD_14, SW_14, PD_15, SW_15, PD_16, SW_16, PD_17, SW_17, PD_18, SW_18, PD_19, SW_19, PD_20, SW_20, PD_21, SW_21, PD_22, SW_22, PD_23, SW_23, PD_24, SW_24, PD_25, SW_25, PD_26, SW_26, PD_27, SW_27, PD_28, SW_28, PD_29, SW_29]; omega)) (by first | omega | (simp only [PD_1, SW_1, PD_2, SW_2, PD_3, SW_3, PD_4, SW_4, PD_5, SW_5, PD_6, SW_6, PD_7, SW_7, PD_8, SW_8, PD_9, SW_9, PD_10, SW_10, PD_11, SW_11, PD_12, SW_12, PD_13, SW_13, PD_14, SW_14, PD_15, SW_15, PD_16, SW_16, PD_17, SW_17, PD_18, SW_18, PD_19, SW_19, PD_20, SW_20, PD_21, SW_21, PD_22, SW_22, PD_23, SW_23, PD_24, SW_24, PD_25, SW_25, PD_26, SW_26, PD_27, SW_27, PD_28, SW_28, PD_29, SW_29]; omega)) hq
    · refine ⟨?_, ?_, ?_, fun _ => ⟨⟨by show 1 ≤ N; omega, by show N < N + 1; omega⟩, w1, w2, w3⟩, ?_, ?_, ?_, ?_, ?_, ?_, ?_, ?_, ?_, ?_⟩ <;> (intro z; omega)
set_option maxRecDepth 100000 in
set_option maxHeartbeats 4000000 in
theorem h_assigned {k b p : Int} (hd : 8 ≤ d) (h : PZ B0 B Y st st cur op fr fr N F tp ow tk sc tm E ht rg bk) (hb : b = 0 ∨ b = 1) (hk : (100 ≤ k ∧ k < 112 ∧ b = 0) ∨ (0 ≤ k ∧ k < tp)) (hpi : -2147483648 ≤ p ∧ p < 2147483648) (hc : cur = b + 1) (hw : WT st 0 (op - 1)) (hn : st.length ≤ 1000) (ho : 1 ≤ op ∧ op ≤ 10) (hp : N + 1 + PD st ≤ 3 * fr + 2) (hm : 64 * (3001 - fr) + SW st + 1 ≤ m) (hq : HQ B0 m A K T Q) : pzV d 36 [.inr (.inr 39), .inl k, .inl b, .inl p] (A, B, Y, K, T) Q := by
  obtain ⟨p1, p2, p3, p4, p5, p6, p7, p8⟩ := PZ_tk h
  have e := PZ_eq h
  have wl := WT_len hw
  have pd0 := PD_0 st
  have j92 : ∀ B1 ht1 rg1 bk1, PZ B0 B1 Y st st 0 op fr fr (N + 1) F tp ow tk sc tm E ht1 rg1 bk1 → pq d 36 92 [some (.inr (.inr 39)), none, none, none, none] [] (A, B1, Y, K, T) (qV Q) := by
    intro B1 ht1 rg1 bk1 h1
    refine pq_of 10 [] [] ?_
    show (0 < d ∧ pzV (d - 1) 11 [.inr (.inr (39 : Nat)), .inl (59 : Int)] (A, B1, Y, K, T) (fun Av1 Bv1 Yv1 Kv1 Tv1 => Q Av1 (zu Bv1 39 20 ((Bv1 39 20) - (1 : Int))) Yv1 Kv1 Tv1))
    refine ⟨by omega, z_must (by omega) h1 (by omega) (by omega) (fun B2 f2 => hq.1 _ _ _ _ (PF_open f2 _)) (fun B2 Y2 f k z g1 g2 h2 s2 => ?_)⟩
    have g3 := g2 (by omega)
    have e2 := PZ_eq h2
    have hw2 : WT st 0 ((B2 39 20) - 1) := by rw [e2.2.1]; exact hw
    have h3 := PZ_open h2 ((B2 39 20) - 1)
    exact hq.2.1 _ _ _ _ _ _ _ _ _ _ _ _ _ _ _ _ _ h3 hw2 (by first | omega | (simp only [PD_1, SW_1, PD_2, SW_2, PD_3, SW_3, PD_4, SW_4, PD_5, SW_5, PD_6, SW_6, PD_7, SW_7, PD_8, SW_8, PD_9, SW_9, PD_10, SW_10, PD_11, SW_11, PD_12, SW_12, PD_13, SW_13, PD_14, SW_14, PD_15, SW_15, PD_16, SW_16, PD_17, SW_17, PD_18, SW_18, PD_19, SW_19, PD_20, SW_20, PD_21, SW_21, PD_22, SW_22, PD_23, SW_23, PD_24, SW_24, PD_25, SW_25, PD_26, SW_26, PD_27, SW_27, PD_28, SW_28, PD_29, SW_29]; omega)) (by omega) (by first | omega | (simp only [PD_1, SW_1, PD_2, SW_2, PD_3, SW_3, PD_4, SW_4, PD_5, SW_5, PD_6, SW_6, PD_7, SW_7, PD_8, SW_8, PD_9, SW_9, PD_10, SW_10, PD_11, SW_11, PD_12, SW_12, PD_13, SW_13, PD_14, SW_14, PD_15, SW_15, PD_16, SW_16, PD_17, SW_17, PD_18, SW_18, PD_19, SW_19, PD_20, SW_20, PD_21, SW_21, PD_22, SW_22, PD_23, SW_23, PD_24, SW_24, PD_25, SW_25, PD_26, SW_26, PD_27, SW_27, PD_28, SW_28, PD_29, SW_29]; omega))
  have j45 : ∀ B1, PZ B0 B1 Y st st cur op fr fr N F tp ow tk sc tm E ht rg bk → pq d 36 45 [some (.inr (.inr 39)), some (.inl k), some (.inl b), none, none] [] (A, B1, Y, K, T) (qV Q) := by
    intro B1 h1
    have e1 := PZ_eq h1
    have at1 : fr ≤ (B1 39 5) := e1.2.2.2.2.2.2.2.2.2.2.1
    obtain ⟨-, -, -, -, -, hD1, -⟩ := id h1
    have hc2 := hD1.2.1
    refine pq_of 13 [(92, [1, 2])] [] ?_
    show ((-2147483648 ≤ b ∧ b < 2147483648) ∧ (b = (0 : Int) → ((-2147483648 ≤ k ∧ k < 2147483648) ∧ (-2147483648 ≤ (99 : Int) ∧ (99 : Int) < 2147483648) ∧ (k ≤ (99 : Int) → ((0 ≤ k ∧ k < (40 : Int)) ∧ (0 < d ∧ pzV (d - 1) 15 [.inr (.inr (39 : Nat)), .inl (5 : Int), .inl (B1 46 (k).toNat), .inl (0 : Int)] (A, B1, Y, K, T) (fun Av1 Bv1 Yv1 Kv1 Tv1 => pq d 36 92 [some (.inr (.inr (39 : Nat))), none, none, none, none] [] (Av1, Bv1, Yv1, Kv1, Tv1) (qV Q))))) ∧ ((99 : Int) < k → (0 < d ∧ pzV (d - 1) 15 [.inr (.inr (39 : Nat)), .inl (6 : Int), .inl (k - (100 : Int)), .inl (0 : Int)] (A, B1, Y, K, T) (fun Av2 Bv2 Yv2 Kv2 Tv2 => pq d 36 92 [some (.inr (.inr (39 : Nat))), none, none, none, none] [] (Av2, Bv2, Yv2, Kv2, Tv2) (qV Q)))))) ∧ (b ≠ (0 : Int) → (0 < d ∧ pzV (d - 1) 15 [.inr (.inr (39 : Nat)), .inl (7 : Int), .inl k, .inl (0 : Int)] (A, B1, Y, K, T) (fun Av3 Bv3 Yv3 Kv3 Tv3 => pq d 36 92 [some (.inr (.inr (39 : Nat))), none, none, none, none] [] (Av3, Bv3, Yv3, Kv3, Tv3) (qV Q)))))
    refine ⟨by omega, fun z => ⟨by omega, by omega, fun w => ⟨by omega, ?_⟩, fun w => ⟨by omega, z_say (y := 0) (fc' := fr) h1 (by omega) (Int.le_refl _) at1 (by omega) (by omega) (Or.inr (Or.inr (Or.inr (Or.inr (Or.inr (Or.inl ⟨rfl, by omega, by omega, by omega⟩)))))) (fun B2 ht2 rg2 bk2 h2 s2 l2 => j92 B2 ht2 rg2 bk2 h2)⟩⟩, fun z => ⟨by omega, z_say (y := 0) (fc' := fr) h1 (by omega) (Int.le_refl _) at1 (by omega) (by omega) (Or.inr (Or.inr (Or.inr (Or.inr (Or.inr (Or.inr (Or.inl ⟨rfl, by omega, by omega, by omega⟩))))))) (fun B2 ht2 rg2 bk2 h2 s2 l2 => j92 B2 ht2 rg2 bk2 h2)⟩⟩
    have hk2 := hD1.2.2.1 k.toNat (by omega)
    exact ⟨by omega, z_say (y := 0) (fc' := fr) h1 (by omega) (Int.le_refl _) at1 (by omega) (by omega) (Or.inr (Or.inr (Or.inr (Or.inr (Or.inl ⟨rfl, by omega, by omega, by omega⟩))))) (fun B2 ht2 rg2 bk2 h2 s2 l2 => j92 B2 ht2 rg2 bk2 h2)⟩
  obtain ⟨-, -, -, -, -, hD, hO, -⟩ := id h
  have j24 : ∀ x, (x = 0 ∨ x = 1) → pq d 36 24 [some (.inr (.inr 39)), some (.inl k), some (.inl b), some (.inl p), none] [.inl x] (A, B, Y, K, T) (qV Q) := by
    intro x hx
    refine pq_of 10 [(45, [3, 4])] [] ?_
    show ((-2147483648 ≤ (B 39 42) ∧ (B 39 42) < 2147483648) ∧ ((B 39 42) = (0 : Int) → pq d 36 45 [some (.inr (.inr (39 : Nat))), some (.inl k), some (.inl b), none, none] [] (A, B, Y, K, T) (qV Q)) ∧ ((B 39 42) ≠ (0 : Int) → ((-2147483648 ≤ x ∧ x < 2147483648) ∧ (x ≠ (0 : Int) → pq d 36 45 [some (.inr (.inr (39 : Nat))), some (.inl k), some (.inl b), none, none] [] (A, B, Y, K, T) (qV Q)) ∧ (x = (0 : Int) → (0 < d ∧ pzV (d - 1) 12 [.inr (.inr (39 : Nat)), .inl (8 : Int), .inl p] (A, B, Y, K, T) (fun Av1 Bv1 Yv1 Kv1 Tv1 => pq d 36 45 [some (.inr (.inr (39 : Nat))), some (.inl k), some (.inl b), none, none] [] (Av1, Bv1, Yv1, Kv1, Tv1) (qV Q)))))))
    exact ⟨by omega, fun _ => j45 B h, fun _ => ⟨by omega, fun _ => j45 B h, fun _ => ⟨by omega, z_forbid h (by omega) hpi (fun B1 h1 s1 => j45 B1 h1)⟩⟩⟩
  refine pzV_of 10 [(24, [])] [] ?_
  show ((-2147483648 ≤ k ∧ k < 2147483648) ∧ (-2147483648 ≤ (99 : Int) ∧ (99 : Int) < 2147483648) ∧ (k ≤ (99 : Int) → ((0 ≤ k ∧ k < (40 : Int)) ∧ pq d 36 24 [some (.inr (.inr (39 : Nat))), some (.inl k), some (.inl b), some (.inl p), none] [.inl (B 47 (k).toNat)] (A, B, Y, K, T) (qV Q))) ∧ ((99 : Int) < k → ((0 ≤ (k - (100 : Int)) ∧ (k - (100 : Int)) < (12 : Int)) ∧ pq d 36 24 [some (.inr (.inr (39 : Nat))), some (.inl k), some (.inl b), some (.inl p), none] [.inl (B 48 ((k - (100 : Int))).toNat)] (A, B, Y, K, T) (qV Q))))
  exact ⟨by omega, by omega, fun z => ⟨by omega, j24 _ (hD.2.2.2 _)⟩, fun z => ⟨by omega, j24 _ (hO.2.2 _)⟩⟩
set_option maxRecDepth 100000 in
set_option maxHeartbeats 4000000 in
theorem h_assignment (hd : 12 ≤ d) (h : PZ B0 B Y st st cur op fr fr N F tp ow tk sc tm E ht rg bk) (htk : tk = 3) (hc : cur = 0) (hw : WT st 0 op) (hn : (st.length : Int) ≤ 20 * op + 4) (ho : 0 ≤ op ∧ op ≤ 10) (hp : N + PD st ≤ 3 * fr + 2) (hm : 64 * (3001 - fr) + SW st ≤ m) (hq : HQ B0 m A K T Q) : pzV d 35 [.inr (.inr 39)] (A, B, Y, K, T) Q := by
  obtain ⟨p1, p2, p3, p4, p5, p6, p7, p8⟩ := PZ_tk h
  have e := PZ_eq h
  have wl := WT_len hw
  have pd0 := PD_0 st
  obtain ⟨-, hK, -, ⟨t1, t2, t3, t4, t5, t6⟩, -⟩ := id h
  have j30f : ∀ B1 b r on, on ≤ 11000 → PF B0 B1 Y on (st.length : Int) → (B1 39 20) = op → pq d 35 30 [some (.inr (.inr 39)), some (.inl b), some (.inl r)] [] (A, B1, Y, K, T) (qV Q) := by
    intro B1 b r on hon f1 o1
    refine pq_of 6 [(42, [])] [] ?_
    show (0 < d ∧ pzV (d - 1) 16 [.inr (.inr (39 : Nat))] (A, B1, Y, K, T) (fun Av1 Bv1 Yv1 Kv1 Tv1 => ((-2147483648 ≤ (Bv1 39 10) ∧ (Bv1 39 10) < 2147483648) ∧ ((Bv1 39 10) ≤ (0 : Int) → pq d 35 42 [some (.inr (.inr (39 : Nat))), some (.inl b), some (.inl r)] [] (Av1, Bv1, Yv1, Kv1, Tv1) (qV Q)) ∧ ((0 : Int) < (Bv1 39 10) → Q Av1 Bv1 Yv1 Kv1 Tv1))))
    refine ⟨by omega, f_deeper (by omega) f1 (by omega) (fun B2 f2 => ?_)⟩
    have g := PF_eq f2
    exact ⟨by omega, fun z => absurd z (by omega), fun _ => hq.1 _ _ _ _ f2⟩
  have j30 : ∀ b r, (b = 0 ∨ b = 1) → ((100 ≤ r ∧ r < 112 ∧ b = 0) ∨ (0 ≤ r ∧ r < tp)) → pq d 35 30 [some (.inr (.inr 39)), some (.inl b), some (.inl r)] [] (A, B, Y, K, T) (qV Q) := by
    intro b r hb hr
    refine pq_of 6 [(42, [])] [] ?_
    show (0 < d ∧ pzV (d - 1) 16 [.inr (.inr (39 : Nat))] (A, B, Y, K, T) (fun Av1 Bv1 Yv1 Kv1 Tv1 => ((-2147483648 ≤ (Bv1 39 10) ∧ (Bv1 39 10) < 2147483648) ∧ ((Bv1 39 10) ≤ (0 : Int) → pq d 35 42 [some (.inr (.inr (39 : Nat))), some (.inl b), some (.inl r)] [] (Av1, Bv1, Yv1, Kv1, Tv1) (qV Q)) ∧ ((0 : Int) < (Bv1 39 10) → Q Av1 Bv1 Yv1 Kv1 Tv1))))
    refine ⟨by omega, z_deeper (by omega) h ho (fun B1 f1 => ?_) (fun B1 o1 h1 s1 => ?_)⟩
    · have g := PF_eq f1
      exact ⟨by omega, fun z => absurd z (by omega), fun _ => hq.1 _ _ _ _ f1⟩
    · have e1 := PZ_eq h1
      refine ⟨by omega, fun _ => ?_, fun z => absurd z (by omega)⟩
      have h2 := PZ_stm h1 ((B1 39 19) + 1)
      have at1 : fr ≤ (B1 39 5) := e1.2.2.2.2.2.2.2.2.2.2.1
      refine pq_of 29 [] [] ?_
      show (0 < d ∧ pzV (d - 1) 15 [.inr (.inr (39 : Nat)), .inl (13 : Int), .inl (0 : Int), .inl (0 : Int)] (A, (zu B1 39 19 ((B1 39 19) + (1 : Int))), Y, K, T) (fun Av1 Bv1 Yv1 Kv1 Tv1 => (0 < d ∧ pzV (d - 1) 5 [.inr (.inr (39 : Nat))] (Av1, Bv1, Yv1, Kv1, Tv1) (fun Av2 Bv2 Yv2 Kv2 Tv2 => ((-2147483648 ≤ b ∧ b < 2147483648) ∧ (b = (0 : Int) → (0 < d ∧ pzV (d - 1) 20 [.inr (.inr (39 : Nat)), .inl (13 : Int), .inl r, .inl (0 : Int), .inl (0 : Int), .inl (0 : Int)] (Av2, Bv2, Yv2, Kv2, Tv2) (fun Av3 Bv3 Yv3 Kv3 Tv3 => ((-2147483648 ≤ b ∧ b < 2147483648) ∧ (b = (0 : Int) → Q Av3 Bv3 Yv3 Kv3 Tv3) ∧ (b ≠ (0 : Int) → (0 < d ∧ pzV (d - 1) 21 [.inr (.inr (39 : Nat)), .inl (15 : Int)] (Av3, Bv3, Yv3, Kv3, Tv3) (fun Av4 Bv4 Yv4 Kv4 Tv4 => Q Av4 Bv4 Yv4 Kv4 Tv4))))))) ∧ (b ≠ (0 : Int) → (0 < d ∧ pzV (d - 1) 20 [.inr (.inr (39 : Nat)), .inl (13 : Int), .inl r, .inl (1 : Int), .inl (0 : Int), .inl (0 : Int)] (Av2, Bv2, Yv2, Kv2, Tv2) (fun Av5 Bv5 Yv5 Kv5 Tv5 => ((-2147483648 ≤ b ∧ b < 2147483648) ∧ (b = (0 : Int) → Q Av5 Bv5 Yv5 Kv5 Tv5) ∧ (b ≠ (0 : Int) → (0 < d ∧ pzV (d - 1) 21 [.inr (.inr (39 : Nat)), .inl (15 : Int)] (Av5, Bv5, Yv5, Kv5, Tv5) (fun Av6 Bv6 Yv6 Kv6 Tv6 => Q Av6 Bv6 Yv6 Kv6 Tv6))))))))))))
      refine ⟨by omega, z_say (y := 0) (fc' := fr) h2 (by omega) (Int.le_refl _) at1 (by omega) (by omega) (Or.inr (Or.inr (Or.inr (Or.inr (Or.inr (Or.inr (Or.inr (Or.inr (Or.inr (Or.inr (Or.inr ⟨rfl, by omega⟩))))))))))) (fun B3 ht3 rg3 bk3 h3 s3 l3 => ⟨by omega, z_next (by omega) h3 (fun B4 Y4 f4 k4 g1 g2 h4 s4 => ?_)⟩)⟩
      have g3 := g2 (by omega)
      refine ⟨by omega, fun z => ⟨by omega, z_wait h4 (by omega) (td_13 (Or.inl rfl) (by omega)) (fun B5 h5 s5 => ⟨by omega, fun _ => ?_, fun w => absurd z w⟩)⟩, fun z => ⟨by omega, z_wait h4 (by omega) (td_13 (Or.inr rfl) (by omega)) (fun B5 h5 s5 => ⟨by omega, fun w => absurd w z, fun _ => ⟨by omega, z_plain (by omega) h5 (by simp only [List.length_cons, true_and, and_true]; omega) (td_0 (by omega)) (fun B6 h6 s6 => ?_)⟩⟩)⟩⟩
      · exact hq.2.1 _ _ _ _ _ _ _ _ _ _ _ _ _ _ _ _ _ h5 (WT_c2 (tt_13 (by omega)) hw (by omega) (by omega)) (by first | omega | (simp only [PD_1, SW_1, PD_2, SW_2, PD_3, SW_3, PD_4, SW_4, PD_5, SW_5, PD_6, SW_6, PD_7, SW_7, PD_8, SW_8, PD_9, SW_9, PD_10, SW_10, PD_11, SW_11, PD_12, SW_12, PD_13, SW_13, PD_14, SW_14, PD_15, SW_15, PD_16, SW_16, PD_17, SW_17, PD_18, SW_18, PD_19, SW_19, PD_20, SW_20, PD_21, SW_21, PD_22, SW_22, PD_23, SW_23, PD_24, SW_24, PD_25, SW_25, PD_26, SW_26, PD_27, SW_27, PD_28, SW_28, PD_29, SW_29]; omega)) (by omega) (by first | omega | (simp only [PD_1, SW_1, PD_2, SW_2, PD_3, SW_3, PD_4, SW_4, PD_5, SW_5, PD_6, SW_6, PD_7, SW_7, PD_8, SW_8, PD_9, SW_9, PD_10, SW_10, PD_11, SW_11, PD_12, SW_12, PD_13, SW_13, PD_14, SW_14, PD_15, SW_15, PD_16, SW_16, PD_17, SW_17, PD_18, SW_18, PD_19, SW_19, PD_20, SW_20, PD_21, SW_21, PD_22, SW_22, PD_23, SW_23, PD_24, SW_24, PD_25, SW_25, PD_26, SW_26, PD_27, SW_27, PD_28, SW_28, PD_29, SW_29]; omega))
      · exact hq.2.1 _ _ _ _ _ _ _ _ _ _ _ _ _ _ _ _ _ h6 (WT_c2 (c2 := 1) (tt_15 (by simp only [List.length_cons, true_and, and_true]; omega)) (WT_c2 (tt_13 (by omega)) hw (by omega) (by omega)) (by omega) rfl) (by first | omega | (simp only [PD_1, SW_1, PD_2, SW_2, PD_3, SW_3, PD_4, SW_4, PD_5, SW_5, PD_6, SW_6, PD_7, SW_7, PD_8, SW_8, PD_9, SW_9, PD_10, SW_10, PD_11, SW_11, PD_12, SW_12, PD_13, SW_13, PD_14, SW_14, PD_15, SW_15, PD_16, SW_16, PD_17, SW_17, PD_18, SW_18, PD_19, SW_19, PD_20, SW_20, PD_21, SW_21, PD_22, SW_22, PD_23, SW_23, PD_24, SW_24, PD_25, SW_25, PD_26, SW_26, PD_27, SW_27, PD_28, SW_28, PD_29, SW_29]; omega)) (by omega) (by first | omega | (simp only [PD_1, SW_1, PD_2, SW_2, PD_3, SW_3, PD_4, SW_4, PD_5, SW_5, PD_6, SW_6, PD_7, SW_7, PD_8, SW_8, PD_9, SW_9, PD_10, SW_10, PD_11, SW_11, PD_12, SW_12, PD_13, SW_13, PD_14, SW_14, PD_15, SW_15, PD_16, SW_16, PD_17, SW_17, PD_18, SW_18, PD_19, SW_19, PD_20, SW_20, PD_21, SW_21, PD_22, SW_22, PD_23, SW_23, PD_24, SW_24, PD_25, SW_25, PD_26, SW_26, PD_27, SW_27, PD_28, SW_28, PD_29, SW_29]; omega))
  have j14 : ∀ b, (b = 0 ∨ b = 1) → pq d 35 14 [some (.inr (.inr 39)), none, none] [.inl b] (A, B, Y, K, T) (qV Q) := by
    intro b hb
    refine pq_of 10 [(30, [])] [] ?_
    show (0 < d ∧ pzI (d - 1) 33 [.inr (.inr (39 : Nat)), .inl b] (A, B, Y, K, T) (fun nv1 Av1 Bv1 Yv1 Kv1 Tv1 => ((-2147483648 ≤ nv1 ∧ nv1 < 2147483648) ∧ ((0 : Int) ≤ nv1 → pq d 35 30 [some (.inr (.inr (39 : Nat))), some (.inl b), some (.inl nv1)] [] (Av1, Bv1, Yv1, Kv1, Tv1) (qV Q)) ∧ (nv1 < (0 : Int) → (0 < d ∧ pzV (d - 1) 9 [.inr (.inr (39 : Nat)), .inl (2 : Int)] (Av1, Bv1, Yv1, Kv1, Tv1) (fun Av2 Bv2 Yv2 Kv2 Tv2 => pq d 35 30 [some (.inr (.inr (39 : Nat))), some (.inl b), some (.inl nv1)] [] (Av2, Bv2, Yv2, Kv2, Tv2) (qV Q)))))))
    exact ⟨by omega, h_named (by omega) h hb (fun r hr => ⟨by omega, fun z => j30 b r hb (by omega), fun z => ⟨by omega, z_fail h (by omega) (by omega) (fun B1 f1 o1 => j30f B1 b r _ (by omega) f1 o1)⟩⟩)⟩
  refine pzV_of 6 [(14, [])] [] ?_
  show (0 < d ∧ pzI (d - 1) 34 [.inr (.inr (39 : Nat))] (A, B, Y, K, T) (fun nv1 Av1 Bv1 Yv1 Kv1 Tv1 => ((-2147483648 ≤ nv1 ∧ nv1 < 2147483648) ∧ (-2147483648 ≤ (91 : Int) ∧ (91 : Int) < 2147483648) ∧ (nv1 ≠ (91 : Int) → pq d 35 14 [some (.inr (.inr (39 : Nat))), none, none] [.inl (0 : Int)] (Av1, Bv1, Yv1, Kv1, Tv1) (qV Q)) ∧ (nv1 = (91 : Int) → pq d 35 14 [some (.inr (.inr (39 : Nat))), none, none] [.inl (1 : Int)] (Av1, Bv1, Yv1, Kv1, Tv1) (qV Q)))))
  exact ⟨by omega, m_ahead (by omega) hK (by omega) t4 (fun c hc => ⟨by omega, by omega, fun _ => j14 0 (Or.inl rfl), fun _ => j14 1 (Or.inr rfl)⟩)⟩
set_option maxRecDepth 100000 in
set_option maxHeartbeats 4000000 in
theorem h_statement (hd : 14 ≤ d) (h : PZ B0 B Y st st cur op fr fr N F tp ow tk sc tm E ht rg bk) (htk : tk = 3 ∨ tk = 8 ∨ tk = 10 ∨ tk = 11) (hc : cur = 0) (hw : WT st 0 op) (hn : (st.length : Int) ≤ 20 * op + 4) (ho : 0 ≤ op ∧ op ≤ 10) (hp : N + PD st ≤ 3 * fr + 2) (hm : 64 * (3001 - fr) + SW st ≤ m) (hq : HQ B0 m A K T Q) : pzV d 29 [.inr (.inr 39)] (A, B, Y, K, T) Q := by
  obtain ⟨p1, p2, p3, p4, p5, p6, p7, p8⟩ := PZ_tk h
  have e := PZ_eq h
  have wl := WT_len hw
  have pd0 := PD_0 st
  have j13 : tk ≠ 3 → pq d 29 13 [some (.inr (.inr 39)), none, none] [] (A, B, Y, K, T) (qV Q) := by
    intro h3
    refine pq_of 12 [(35, [])] [] ?_
    show (0 < d ∧ pzV (d - 1) 16 [.inr (.inr (39 : Nat))] (A, B, Y, K, T) (fun Av1 Bv1 Yv1 Kv1 Tv1 => ((-2147483648 ≤ (Bv1 39 10) ∧ (Bv1 39 10) < 2147483648) ∧ ((Bv1 39 10) ≤ (0 : Int) → pq d 29 35 [some (.inr (.inr (39 : Nat))), some (.inl (B 39 6)), some (.inl (B 39 7))] [] (Av1, Bv1, Yv1, Kv1, Tv1) (qV Q)) ∧ ((0 : Int) < (Bv1 39 10) → Q Av1 Bv1 Yv1 Kv1 Tv1))))
    refine ⟨by omega, z_deeper (by omega) h ho (fun B1 f1 => ?_) (fun B1 o1 h1 s1 => ?_)⟩
    · have g := PF_eq f1
      exact ⟨by omega, fun z => absurd z (by omega), fun _ => hq.1 _ _ _ _ f1⟩
    · have e1 := PZ_eq h1
      refine ⟨by omega, fun _ => ?_, fun z => absurd z (by omega)⟩
      have h2 := PZ_stm h1 ((B1 39 19) + 1)
      have at1 : fr ≤ (B1 39 5) := e1.2.2.2.2.2.2.2.2.2.2.1
      have j80 : ∀ B4 Y4 f4 k4 ht4 rg4 bk4, fr < f4 → tk ≠ 11 → PZ B0 B4 Y4 st st 0 (op + 1) f4 f4 (N + 1) F tp ow k4 sc tm E ht4 rg4 bk4 → pq d 29 80 [some (.inr (.inr 39)), some (.inl (B 39 6)), some (.inl (B 39 7))] [] (A, B4, Y4, K, T) (qV Q) := by
        intro B4 Y4 f4 k4 ht4 rg4 bk4 g3 n11 h4
        have e4 := PZ_eq h4
        obtain ⟨-, -, -, -, -, -, -, -, -, -, hC4, -⟩ := id h4
        have hC4' := hC4.1
        refine pq_of 19 [] [] ?_
        show (0 < d ∧ pzV (d - 1) 21 [.inr (.inr (39 : Nat)), .inl (6 : Int)] (A, B4, Y4, K, T) (fun Av1 Bv1 Yv1 Kv1 Tv1 => ((-2147483648 ≤ (B 39 6) ∧ (B 39 6) < 2147483648) ∧ (-2147483648 ≤ (8 : Int) ∧ (8 : Int) < 2147483648) ∧ ((B 39 6) ≠ (8 : Int) → (0 < d ∧ pzV (d - 1) 20 [.inr (.inr (39 : Nat)), .inl (10 : Int), .inl (B 39 7), .inl (Bv1 39 38), .inl (0 : Int), .inl (0 : Int)] (Av1, Bv1, Yv1, Kv1, Tv1) (fun Av2 Bv2 Yv2 Kv2 Tv2 => (0 < d ∧ pzV (d - 1) 21 [.inr (.inr (39 : Nat)), .inl (17 : Int)] (Av2, Bv2, Yv2, Kv2, Tv2) (fun Av3 Bv3 Yv3 Kv3 Tv3 => Q Av3 Bv3 Yv3 Kv3 Tv3))))) ∧ ((B 39 6) = (8 : Int) → (0 < d ∧ pzV (d - 1) 20 [.inr (.inr (39 : Nat)), .inl (7 : Int), .inl (B 39 7), .inl (Bv1 39 38), .inl (0 : Int), .inl (0 : Int)] (Av1, Bv1, Yv1, Kv1, Tv1) (fun Av4 Bv4 Yv4 Kv4 Tv4 => (0 < d ∧ pzV (d - 1) 21 [.inr (.inr (39 : Nat)), .inl (17 : Int)] (Av4, Bv4, Yv4, Kv4, Tv4) (fun Av5 Bv5 Yv5 Kv5 Tv5 => Q Av5 Bv5 Yv5 Kv5 Tv5))))))))
        refine ⟨by omega, z_plain (by omega) h4 (by omega) (td_0 (by omega)) (fun B5 h5 s5 => ⟨by omega, by omega, fun z => ⟨by omega, ?_⟩, fun z => ⟨by omega, ?_⟩⟩)⟩
        · -- while
          have e5 := PZ_eq h5
          have h6 : PZ B0 B5 Y4 ((6, 0, 0, 0, 0) :: st) ((6, 0, 0, 0, 0) :: st) 0 (op + 1) f4 f4 (N + 1) F tp ow k4 sc (N + 1) E ht4 rg4 bk4 := by
            obtain ⟨a1, a2, a3, a4, a5, a6, a7, a8, a9, a10, a11, a12⟩ := h5
            exact ⟨a1, a2, a3, a4, a5, a6, a7, a8, a9, a10, CT_tm a11 a11.1.2.2.2 (Int.le_refl _), TD_mono a12 (Int.le_refl _) (Int.le_refl _) a11.1.2.2.2 (Int.le_refl _) a11.1.2.2.2 (fun _ _ => rfl) (fun _ _ _ => ⟨rfl, rfl⟩) (fun _ _ => rfl)⟩
          have hl : (1 ≤ (B5 39 38) ∧ (B5 39 38) ≤ N + 1) ∧ ht4 (B5 39 38).toNat = 0 ∧ rg4 (B5 39 38).toNat = F ∧ bk4 (B5 39 38).toNat = 0 := by
            rw [e5.2.2.2.1]
            exact ⟨by omega, e5.2.2.2.2.2.2.2.2.2.1, hC4.2.2.2.1, hC4.2.2.1 _ (by omega)⟩
          refine z_wait h6 (by simp only [List.length_cons, true_and, and_true]; omega) ?_ (fun B6 h7 s7 => ⟨by omega, z_plain (by omega) h7 (by simp only [List.length_cons, true_and, and_true]; omega) (td_0 (by omega)) (fun B7 h8 s8 => ?_)⟩)
          · refine ⟨?_, ?_, ?_, ?_, fun _ => hl, ?_, ?_, ?_, ?_, ?_, ?_, ?_, ?_, ?_⟩ <;> (intro z; omega)
          · exact hq.2.1 _ _ _ _ _ _ _ _ _ _ _ _ _ _ _ _ _ h8 (WT_c2 (c2 := 1) (o2 := op + 1) (tt_17 (by simp only [List.length_cons, true_and, and_true]; omega)) (WT_c2 (c2 := 0) (o2 := op + 1) (tt_10 (by simp only [List.length_cons, true_and, and_true]; omega)) (WT_c2 (tt_6 (by omega)) hw (by omega) (by omega)) rfl rfl) (by omega) rfl) (by first | omega | (simp only [PD_1, SW_1, PD_2, SW_2, PD_3, SW_3, PD_4, SW_4, PD_5, SW_5, PD_6, SW_6, PD_7, SW_7, PD_8, SW_8, PD_9, SW_9, PD_10, SW_10, PD_11, SW_11, PD_12, SW_12, PD_13, SW_13, PD_14, SW_14, PD_15, SW_15, PD_16, SW_16, PD_17, SW_17, PD_18, SW_18, PD_19, SW_19, PD_20, SW_20, PD_21, SW_21, PD_22, SW_22, PD_23, SW_23, PD_24, SW_24, PD_25, SW_25, PD_26, SW_26, PD_27, SW_27, PD_28, SW_28, PD_29, SW_29]; omega)) (by omega) (by first | omega | (simp only [PD_1, SW_1, PD_2, SW_2, PD_3, SW_3, PD_4, SW_4, PD_5, SW_5, PD_6, SW_6, PD_7, SW_7, PD_8, SW_8, PD_9, SW_9, PD_10, SW_10, PD_11, SW_11, PD_12, SW_12, PD_13, SW_13, PD_14, SW_14, PD_15, SW_15, PD_16, SW_16, PD_17, SW_17, PD_18, SW_18, PD_19, SW_19, PD_20, SW_20, PD_21, SW_21, PD_22, SW_22, PD_23, SW_23, PD_24, SW_24, PD_25, SW_25, PD_26, SW_26, PD_27, SW_27, PD_28, SW_28, PD_29, SW_29]; omega))
        · -- if
          refine z_wait h5 (by simp only [List.length_cons, true_and, and_true]; omega) (td_7 (by omega)) (fun B6 h7 s7 => ⟨by omega, z_plain (by omega) h7 (by simp only [List.length_cons, true_and, and_true]; omega) (td_0 (by omega)) (fun B7 h8 s8 => ?_)⟩)
          exact hq.2.1 _ _ _ _ _ _ _ _ _ _ _ _ _ _ _ _ _ h8 (WT_c2 (c2 := 1) (o2 := op + 1) (tt_17 (by simp only [List.length_cons, true_and, and_true]; omega)) (WT_c2 (c2 := 0) (o2 := op + 1) (tt_7 (by simp only [List.length_cons, true_and, and_true]; omega)) (WT_c2 (tt_6 (by omega)) hw (by omega) (by omega)) rfl rfl) (by omega) rfl) (by first | omega | (simp only [PD_1, SW_1, PD_2, SW_2, PD_3, SW_3, PD_4, SW_4, PD_5, SW_5, PD_6, SW_6, PD_7, SW_7, PD_8, SW_8, PD_9, SW_9, PD_10, SW_10, PD_11, SW_11, PD_12, SW_12, PD_13, SW_13, PD_14, SW_14, PD_15, SW_15, PD_16, SW_16, PD_17, SW_17, PD_18, SW_18, PD_19, SW_19, PD_20, SW_20, PD_21, SW_21, PD_22, SW_22, PD_23, SW_23, PD_24, SW_24, PD_25, SW_25, PD_26, SW_26, PD_27, SW_27, PD_28, SW_28, PD_29, SW_29]; omega)) (by omega) (by first | omega | (simp only [PD_1, SW_1, PD_2, SW_2, PD_3, SW_3, PD_4, SW_4, PD_5, SW_5, PD_6, SW_6, PD_7, SW_7, PD_8, SW_8, PD_9, SW_9, PD_10, SW_10, PD_11, SW_11, PD_12, SW_12, PD_13, SW_13, PD_14, SW_14, PD_15, SW_15, PD_16, SW_16, PD_17, SW_17, PD_18, SW_18, PD_19, SW_19, PD_20, SW_20, PD_21, SW_21, PD_22, SW_22, PD_23, SW_23, PD_24, SW_24, PD_25, SW_25, PD_26, SW_26, PD_27, SW_27, PD_28, SW_28, PD_29, SW_29]; omega))
      refine pq_of 26 [(80, [])] [] ?_
      show (0 < d ∧ pzV (d - 1) 15 [.inr (.inr (39 : Nat)), .inl (13 : Int), .inl (0 : Int), .inl (0 : Int)] (A, (zu B1 39 19 ((B1 39 19) + (1 : Int))), Y, K, T) (fun Av1 Bv1 Yv1 Kv1 Tv1 => (0 < d ∧ pzV (d - 1) 5 [.inr (.inr (39 : Nat))] (Av1, Bv1, Yv1, Kv1, Tv1) (fun Av2 Bv2 Yv2 Kv2 Tv2 => ((-2147483648 ≤ (B 39 6) ∧ (B 39 6) < 2147483648) ∧ (-2147483648 ≤ (11 : Int) ∧ (11 : Int) < 2147483648) ∧ ((B 39 6) ≠ (11 : Int) → pq d 29 80 [some (.inr (.inr (39 : Nat))), some (.inl (B 39 6)), some (.inl (B 39 7))] [] (Av2, Bv2, Yv2, Kv2, Tv2) (qV Q)) ∧ ((B 39 6) = (11 : Int) → (0 < d ∧ pzV (d - 1) 11 [.inr (.inr (39 : Nat)), .inl (59 : Int)] (Av2, Bv2, Yv2, Kv2, Tv2) (fun Av3 Bv3 Yv3 Kv3 Tv3 => Q Av3 (zu Bv3 39 20 ((Bv3 39 20) - (1 : Int))) Yv3 Kv3 Tv3))))))))
      refine ⟨by omega, z_say (y := 0) (fc' := fr) h2 (by omega) (Int.le_refl _) at1 (by omega) (by omega) (Or.inr (Or.inr (Or.inr (Or.inr (Or.inr (Or.inr (Or.inr (Or.inr (Or.inr (Or.inr (Or.inr ⟨rfl, by omega⟩))))))))))) (fun B3 ht3 rg3 bk3 h3' s3 l3 => ⟨by omega, z_next (by omega) h3' (fun B4 Y4 f4 k4 g1 g2 h4 s4 => ?_)⟩)⟩
      have g3 := g2 (by omega)
      have e4 := PZ_eq h4
      refine ⟨by omega, by omega, fun z => j80 B4 Y4 f4 k4 _ _ _ g3 (by omega) h4, fun z => ⟨by omega, z_must (by omega) h4 (by omega) (by omega) (fun B5 f5 => hq.1 _ _ _ _ (PF_open f5 _)) (fun B5 Y5 f5 k5 w g4 g5 h5 s5 => ?_)⟩⟩
      have g6 := g5 (by omega)
      have e5 := PZ_eq h5
      have hw2 : WT st 0 ((B5 39 20) - 1) := by rw [e5.2.1, show op + 1 - 1 = op by omega]; exact hw
      have h6 := PZ_open h5 ((B5 39 20) - 1)
      exact hq.2.1 _ _ _ _ _ _ _ _ _ _ _ _ _ _ _ _ _ h6 hw2 (by first | omega | (simp only [PD_1, SW_1, PD_2, SW_2, PD_3, SW_3, PD_4, SW_4, PD_5, SW_5, PD_6, SW_6, PD_7, SW_7, PD_8, SW_8, PD_9, SW_9, PD_10, SW_10, PD_11, SW_11, PD_12, SW_12, PD_13, SW_13, PD_14, SW_14, PD_15, SW_15, PD_16, SW_16, PD_17, SW_17, PD_18, SW_18, PD_19, SW_19, PD_20, SW_20, PD_21, SW_21, PD_22, SW_22, PD_23, SW_23, PD_24, SW_24, PD_25, SW_25, PD_26, SW_26, PD_27, SW_27, PD_28, SW_28, PD_29, SW_29]; omega)) (by omega) (by first | omega | (simp only [PD_1, SW_1, PD_2, SW_2, PD_3, SW_3, PD_4, SW_4, PD_5, SW_5, PD_6, SW_6, PD_7, SW_7, PD_8, SW_8, PD_9, SW_9, PD_10, SW_10, PD_11, SW_11, PD_12, SW_12, PD_13, SW_13, PD_14, SW_14, PD_15, SW_15, PD_16, SW_16, PD_17, SW_17, PD_18, SW_18, PD_19, SW_19, PD_20, SW_20, PD_21, SW_21, PD_22, SW_22, PD_23, SW_23, PD_24, SW_24, PD_25, SW_25, PD_26, SW_26, PD_27, SW_27, PD_28, SW_28, PD_29, SW_29]; omega))
  refine pzV_of 7 [(13, [])] [] ?_
  show ((-2147483648 ≤ (B 39 6) ∧ (B 39 6) < 2147483648) ∧ (-2147483648 ≤ (3 : Int) ∧ (3 : Int) < 2147483648) ∧ ((B 39 6) ≠ (3 : Int) → pq d 29 13 [some (.inr (.inr (39 : Nat))), none, none] [] (A, B, Y, K, T) (qV Q)) ∧ ((B 39 6) = (3 : Int) → (0 < d ∧ pzV (d - 1) 35 [.inr (.inr (39 : Nat))] (A, B, Y, K, T) (fun Av1 Bv1 Yv1 Kv1 Tv1 => Q Av1 Bv1 Yv1 Kv1 Tv1))))
  exact ⟨by omega, by omega, fun z => j13 (by omega), fun z => ⟨by omega, h_assignment (by omega) h (by omega) hc hw hn ho hp hm hq⟩⟩
end STM
