/-! The model's parser: expressions -/
theorem PD_1 {a b c e : Int} {st : List zE} : PD ((1, a, b, c, e) :: st) = 1 + PD st := rfl
theorem SW_1 {a b c e : Int} {st : List zE} : SW ((1, a, b, c, e) :: st) = 4 + SW st := rfl
theorem PD_2 {a b c e : Int} {st : List zE} : PD ((2, a, b, c, e) :: st) = 1 + PD st := rfl
theorem SW_2 {a b c e : Int} {st : List zE} : SW ((2, a, b, c, e) :: st) = 1 + SW st := rfl
theorem PD_3 {a b c e : Int} {st : List zE} : PD ((3, a, b, c, e) :: st) = 1 + PD st := rfl
theorem SW_3 {a b c e : Int} {st : List zE} : SW ((3, a, b, c, e) :: st) = 1 + SW st := rfl
theorem PD_4 {a b c e : Int} {st : List zE} : PD ((4, a, b, c, e) :: st) = 1 + PD st := rfl
theorem SW_4 {a b c e : Int} {st : List zE} : SW ((4, a, b, c, e) :: st) = 1 + SW st := rfl
theorem PD_5 {a b c e : Int} {st : List zE} : PD ((5, a, b, c, e) :: st) = 0 + PD st := rfl
theorem SW_5 {a b c e : Int} {st : List zE} : SW ((5, a, b, c, e) :: st) = 1 + SW st := rfl
theorem PD_6 {a b c e : Int} {st : List zE} : PD ((6, a, b, c, e) :: st) = 0 + PD st := rfl
theorem SW_6 {a b c e : Int} {st : List zE} : SW ((6, a, b, c, e) :: st) = 1 + SW st := rfl
theorem PD_7 {a b c e : Int} {st : List zE} : PD ((7, a, b, c, e) :: st) = 1 + PD st := rfl
theorem SW_7 {a b c e : Int} {st : List zE} : SW ((7, a, b, c, e) :: st) = 1 + SW st := rfl
theorem PD_8 {a b c e : Int} {st : List zE} : PD ((8, a, b, c, e) :: st) = 0 + PD st := rfl
theorem SW_8 {a b c e : Int} {st : List zE} : SW ((8, a, b, c, e) :: st) = 1 + SW st := rfl
theorem PD_9 {a b c e : Int} {st : List zE} : PD ((9, a, b, c, e) :: st) = 0 + PD st := rfl
theorem SW_9 {a b c e : Int} {st : List zE} : SW ((9, a, b, c, e) :: st) = 1 + SW st := rfl
theorem PD_10 {a b c e : Int} {st : List zE} : PD ((10, a, b, c, e) :: st) = 1 + PD st := rfl
theorem SW_10 {a b c e : Int} {st : List zE} : SW ((10, a, b, c, e) :: st) = 1 + SW st := rfl
theorem PD_11 {a b c e : Int} {st : List zE} : PD ((11, a, b, c, e) :: st) = 2 + PD st := rfl
theorem SW_11 {a b c e : Int} {st : List zE} : SW ((11, a, b, c, e) :: st) = 1 + SW st := rfl
theorem PD_12 {a b c e : Int} {st : List zE} : PD ((12, a, b, c, e) :: st) = 0 + PD st := rfl
theorem SW_12 {a b c e : Int} {st : List zE} : SW ((12, a, b, c, e) :: st) = 1 + SW st := rfl
theorem PD_13 {a b c e : Int} {st : List zE} : PD ((13, a, b, c, e) :: st) = 1 + PD st := rfl
theorem SW_13 {a b c e : Int} {st : List zE} : SW ((13, a, b, c, e) :: st) = 1 + SW st := rfl
theorem PD_14 {a b c e : Int} {st : List zE} : PD ((14, a, b, c, e) :: st) = 1 + PD st := rfl
theorem SW_14 {a b c e : Int} {st : List zE} : SW ((14, a, b, c, e) :: st) = 1 + SW st := rfl
theorem PD_15 {a b c e : Int} {st : List zE} : PD ((15, a, b, c, e) :: st) = 0 + PD st := rfl
theorem SW_15 {a b c e : Int} {st : List zE} : SW ((15, a, b, c, e) :: st) = 24 + SW st := rfl
theorem PD_16 {a b c e : Int} {st : List zE} : PD ((16, a, b, c, e) :: st) = 0 + PD st := rfl
theorem SW_16 {a b c e : Int} {st : List zE} : SW ((16, a, b, c, e) :: st) = 1 + SW st := rfl
theorem PD_17 {a b c e : Int} {st : List zE} : PD ((17, a, b, c, e) :: st) = 0 + PD st := rfl
theorem SW_17 {a b c e : Int} {st : List zE} : SW ((17, a, b, c, e) :: st) = 19 + SW st := rfl
theorem PD_18 {a b c e : Int} {st : List zE} : PD ((18, a, b, c, e) :: st) = 0 + PD st := rfl
theorem SW_18 {a b c e : Int} {st : List zE} : SW ((18, a, b, c, e) :: st) = 1 + SW st := rfl
theorem PD_19 {a b c e : Int} {st : List zE} : PD ((19, a, b, c, e) :: st) = 1 + PD st := rfl
theorem SW_19 {a b c e : Int} {st : List zE} : SW ((19, a, b, c, e) :: st) = 1 + SW st := rfl
theorem PD_20 {a b c e : Int} {st : List zE} : PD ((20, a, b, c, e) :: st) = 1 + PD st := rfl
theorem SW_20 {a b c e : Int} {st : List zE} : SW ((20, a, b, c, e) :: st) = 1 + SW st := rfl
theorem PD_21 {a b c e : Int} {st : List zE} : PD ((21, a, b, c, e) :: st) = 0 + PD st := rfl
theorem SW_21 {a b c e : Int} {st : List zE} : SW ((21, a, b, c, e) :: st) = (17 - 2 * a) + SW st := rfl
theorem PD_22 {a b c e : Int} {st : List zE} : PD ((22, a, b, c, e) :: st) = 0 + PD st := rfl
theorem SW_22 {a b c e : Int} {st : List zE} : SW ((22, a, b, c, e) :: st) = 1 + SW st := rfl
theorem PD_23 {a b c e : Int} {st : List zE} : PD ((23, a, b, c, e) :: st) = 1 + PD st := rfl
theorem SW_23 {a b c e : Int} {st : List zE} : SW ((23, a, b, c, e) :: st) = 2 + SW st := rfl
theorem PD_24 {a b c e : Int} {st : List zE} : PD ((24, a, b, c, e) :: st) = 0 + PD st := rfl
theorem SW_24 {a b c e : Int} {st : List zE} : SW ((24, a, b, c, e) :: st) = 1 + SW st := rfl
theorem PD_25 {a b c e : Int} {st : List zE} : PD ((25, a, b, c, e) :: st) = 1 + PD st := rfl
theorem SW_25 {a b c e : Int} {st : List zE} : SW ((25, a, b, c, e) :: st) = 1 + SW st := rfl
theorem PD_26 {a b c e : Int} {st : List zE} : PD ((26, a, b, c, e) :: st) = 0 + PD st := rfl
theorem SW_26 {a b c e : Int} {st : List zE} : SW ((26, a, b, c, e) :: st) = 1 + SW st := rfl
theorem PD_27 {a b c e : Int} {st : List zE} : PD ((27, a, b, c, e) :: st) = 1 + PD st := rfl
theorem SW_27 {a b c e : Int} {st : List zE} : SW ((27, a, b, c, e) :: st) = 1 + SW st := rfl
theorem PD_28 {a b c e : Int} {st : List zE} : PD ((28, a, b, c, e) :: st) = 1 + PD st := rfl
theorem SW_28 {a b c e : Int} {st : List zE} : SW ((28, a, b, c, e) :: st) = 22 + SW st := rfl
theorem PD_29 {a b c e : Int} {st : List zE} : PD ((29, a, b, c, e) :: st) = 1 + PD st := rfl
theorem SW_29 {a b c e : Int} {st : List zE} : SW ((29, a, b, c, e) :: st) = 1 + SW st := rfl
theorem WT_len {st : List zE} {c o : Int} (h : WT st c o) : 1 ≤ st.length := by
  cases st with
  | nil => exact h.elim
  | cons e st => show 1 ≤ st.length + 1; omega
theorem WT_c2 {w a b c e : Int} {st : List zE} {cur op c1 o1 c2 o2 : Int} (h : tt w a b (st.length : Int) cur op c1 o1) (hs : WT st c2 o2) (e1 : c1 = c2) (e2 : o1 = o2) (h3 : (w = 3 ∨ w = 4) → st = [(1, 0, 0, 0, 0)] := by intro z; omega) : WT ((w, a, b, c, e) :: st) cur op := by
  subst e1; subst e2
  exact WT_cons h hs h3
section TDS
variable {F tp N tm ow : Int} {o fb pr ht rg bk : Nat → Int} {w a b c e : Int}
theorem td_16 (ha : -2147483648 ≤ a ∧ a < 2147483648) : td F tp N tm ow o fb pr ht rg bk 16 a b c e := by
  refine ⟨?_, ?_, ?_, ?_, ?_, ?_, ?_, ?_, ?_, ?_, ?_, ?_, ?_, ?_⟩ <;> (intro z; omega)
theorem td_25 (ha : -2147483648 ≤ a ∧ a < 2147483648) : td F tp N tm ow o fb pr ht rg bk 25 a b c e := by
  refine ⟨?_, ?_, ?_, ?_, ?_, ?_, ?_, ?_, ?_, ?_, ?_, ?_, ?_, ?_⟩ <;> (intro z; omega)
theorem td_7 (ha : -2147483648 ≤ a ∧ a < 2147483648) : td F tp N tm ow o fb pr ht rg bk 7 a b c e := by
  refine ⟨?_, ?_, ?_, ?_, ?_, ?_, ?_, ?_, ?_, ?_, ?_, ?_, ?_, ?_⟩ <;> (intro z; omega)
theorem td_19 (ha : a = 0 ∨ a = 1) (hw : w = 19 ∨ w = 20) : td F tp N tm ow o fb pr ht rg bk w a b c e := by
  refine ⟨?_, ?_, ?_, ?_, ?_, ?_, ?_, ?_, ?_, ?_, ?_, ?_, ?_, ?_⟩ <;> (intro z; omega)
theorem td_21 (ha : 0 ≤ a ∧ a ≤ 8) : td F tp N tm ow o fb pr ht rg bk 21 a b c e := by
  refine ⟨?_, ?_, ?_, ?_, ?_, ?_, ?_, ?_, ?_, ?_, ?_, ?_, ?_, ?_⟩ <;> (intro z; omega)
theorem td_22 (ha : 0 ≤ a ∧ a ≤ 7) : td F tp N tm ow o fb pr ht rg bk 22 a b c e := by
  refine ⟨?_, ?_, ?_, ?_, ?_, ?_, ?_, ?_, ?_, ?_, ?_, ?_, ?_, ?_⟩ <;> (intro z; omega)
theorem td_27 (ha : 0 ≤ a ∧ a < tp) : td F tp N tm ow o fb pr ht rg bk 27 a b c e := by
  refine ⟨?_, ?_, ?_, ?_, ?_, ?_, ?_, ?_, ?_, ?_, ?_, ?_, ?_, ?_⟩ <;> (intro z; omega)
theorem td_28 (ha : 0 ≤ a ∧ a < F) : td F tp N tm ow o fb pr ht rg bk 28 a b c e := by
  refine ⟨?_, ?_, ?_, ?_, ?_, ?_, ?_, ?_, ?_, ?_, ?_, ?_, ?_, ?_⟩ <;> (intro z; omega)
theorem td_29 (ha : 0 ≤ a ∧ a < F) (hc : -2147483648 ≤ c ∧ c < 2147483648) : td F tp N tm ow o fb pr ht rg bk 29 a b c e := by
  refine ⟨?_, ?_, ?_, ?_, ?_, ?_, ?_, ?_, ?_, ?_, ?_, ?_, ?_, ?_⟩ <;> (intro z; omega)
theorem td_13 (hb : b = 0 ∨ b = 1) (ha : (100 ≤ a ∧ a < 112 ∧ b = 0) ∨ (0 ≤ a ∧ a < tp)) : td F tp N tm ow o fb pr ht rg bk 13 a b c e := by
  refine ⟨?_, ?_, ?_, ?_, ?_, ?_, ?_, ?_, ?_, ?_, ?_, ?_, ?_, ?_⟩ <;> (intro z; omega)
theorem td_14 (hb : b = 0 ∨ b = 1) (ha : (100 ≤ a ∧ a < 112 ∧ b = 0) ∨ (0 ≤ a ∧ a < tp)) (hc : -2147483648 ≤ c ∧ c < 2147483648) : td F tp N tm ow o fb pr ht rg bk 14 a b c e := by
  refine ⟨?_, ?_, ?_, ?_, ?_, ?_, ?_, ?_, ?_, ?_, ?_, ?_, ?_, ?_⟩ <;> (intro z; omega)
theorem td_23 (ha : 0 ≤ a ∧ a ≤ 7) (hb : isop b) (hc : -2147483648 ≤ c ∧ c < 2147483648) (he : e = 0 ∨ e = 1) : td F tp N tm ow o fb pr ht rg bk 23 a b c e := by
  refine ⟨?_, ?_, ?_, ?_, ?_, ?_, ?_, ?_, ?_, ?_, ?_, fun _ => ⟨ha, hb, he⟩, ?_, ?_⟩ <;> (intro z; omega)
end TDS
theorem isop_12 {t : Int} (h : isop t) : t ≠ 12 := by
  unfold isop at h
  omega
section EXPR
variable {d : Nat} {A B0 B Y : zF} {K : Nat} {T : zT} {st : List zE} {cur op fr N F tp ow tk sc tm m : Int} {E ht rg bk : Nat → Int} {Q : zF → zF → zF → Nat → zT → Prop}
set_option maxRecDepth 100000 in
set_option maxHeartbeats 4000000 in
theorem h_named {b : Int} {Q : Int → zF → zF → zF → Nat → zT → Prop} (hd : 3 ≤ d) (h : PZ B0 B Y st st cur op fr fr N F tp ow tk sc tm E ht rg bk) (hb : b = 0 ∨ b = 1) (q : ∀ r, r = -1 ∨ (100 ≤ r ∧ r < 112 ∧ b = 0) ∨ (0 ≤ r ∧ r < tp) → Q r A B Y K T) : pzI d 33 [.inr (.inr 39), .inl b] (A, B, Y, K, T) Q := by
  obtain ⟨-, hK, hY, hT, -, hD, hO, hG, hX, -⟩ := id h
  have e := PZ_eq h
  have x3 := hX.2.2.1
  have d1 := hD.1
  have o1 := hO.1
  have j80 : ∀ r x, 0 ≤ r → r < tp → (x = 0 ∨ x = 1) → pq d 33 80 [some (.inr (.inr 39)), some (.inl b), none, some (.inl r)] [.inl x] (A, B, Y, K, T) (qI Q) := by
    intro r x r1 r2 hx
    refine pq_of 5 [] [] ?_
    show ((-2147483648 ≤ x ∧ x < 2147483648) ∧ (-2147483648 ≤ b ∧ b < 2147483648) ∧ (x ≠ b → Q (-1 : Int) A B Y K T) ∧ (x = b → Q r A B Y K T))
    exact ⟨by omega, by omega, fun _ => q _ (Or.inl rfl), fun _ => q _ (Or.inr (Or.inr ⟨r1, r2⟩))⟩
  have j45 : pq d 33 45 [some (.inr (.inr 39)), some (.inl b), none, none] [] (A, B, Y, K, T) (qI Q) := by
    refine pq_of 18 [(80, [])] [] ?_
    show (0 < d ∧ pzI (d - 1) 14 [.inr (.inr (39 : Nat)), .inr (.inr (42 : Nat)), .inr (.inr (43 : Nat)), .inl (B 39 13)] (A, B, Y, K, T) (fun nv1 Av1 Bv1 Yv1 Kv1 Tv1 => ((-2147483648 ≤ nv1 ∧ nv1 < 2147483648) ∧ (nv1 < (0 : Int) → Q (-1 : Int) Av1 Bv1 Yv1 Kv1 Tv1) ∧ ((0 : Int) ≤ nv1 → ((0 ≤ nv1 ∧ nv1 < (40 : Int)) ∧ ((-2147483648 ≤ (Bv1 44 (nv1).toNat) ∧ (Bv1 44 (nv1).toNat) < 2147483648) ∧ ((Bv1 44 (nv1).toNat) ≤ (0 : Int) → pq d 33 80 [some (.inr (.inr (39 : Nat))), some (.inl b), none, some (.inl nv1)] [.inl (0 : Int)] (Av1, Bv1, Yv1, Kv1, Tv1) (qI Q)) ∧ ((0 : Int) < (Bv1 44 (nv1).toNat) → pq d 33 80 [some (.inr (.inr (39 : Nat))), some (.inl b), none, some (.inl nv1)] [.inl (1 : Int)] (Av1, Bv1, Yv1, Kv1, Tv1) (qI Q))))))))
    refine ⟨by omega, m_find_42 (by omega) hK hT d1.1 d1.2 (fun k hk => (hD.2.2.1 k hk).1) (fun r r1 r2 => ⟨by omega, fun _ => q _ (Or.inl rfl), fun r3 => ⟨by omega, ?_⟩⟩)⟩
    have g := (hD.2.2.1 r.toNat (by omega)).2.1
    exact ⟨by omega, fun _ => j80 r 0 r3 (by omega) (Or.inl rfl), fun _ => j80 r 1 r3 (by omega) (Or.inr rfl)⟩
  have j27 : ∀ r, -1 ≤ r → r < ow ∨ r = -1 → pq d 33 27 [some (.inr (.inr 39)), some (.inl b), none, none] [.inl r] (A, B, Y, K, T) (qI Q) := by
    intro r r1 r2
    refine pq_of 9 [(45, [2])] [] ?_
    show ((-2147483648 ≤ r ∧ r < 2147483648) ∧ (r < (0 : Int) → pq d 33 45 [some (.inr (.inr (39 : Nat))), some (.inl b), none, none] [] (A, B, Y, K, T) (qI Q)) ∧ ((0 : Int) ≤ r → ((-2147483648 ≤ b ∧ b < 2147483648) ∧ (b = (0 : Int) → Q ((100 : Int) + r) A B Y K T) ∧ (b ≠ (0 : Int) → Q (-1 : Int) A B Y K T))))
    exact ⟨by omega, fun _ => j45, fun r3 => ⟨by omega, fun b0 => q _ (Or.inr (Or.inl (by omega))), fun _ => q _ (Or.inl rfl)⟩⟩
  refine pzI_of 12 [(27, []), (45, [2])] [] ?_
  show ((-2147483648 ≤ (B 39 37) ∧ (B 39 37) < 2147483648) ∧ ((B 39 37) = (0 : Int) → pq d 33 27 [some (.inr (.inr (39 : Nat))), some (.inl b), none, none] [.inl (-1 : Int)] (A, B, Y, K, T) (qI Q)) ∧ ((B 39 37) ≠ (0 : Int) → (0 < d ∧ pzI (d - 1) 14 [.inr (.inr (39 : Nat)), .inr (.inr (50 : Nat)), .inr (.inr (51 : Nat)), .inl (B 39 16)] (A, B, Y, K, T) (fun nv1 Av1 Bv1 Yv1 Kv1 Tv1 => pq d 33 27 [some (.inr (.inr (39 : Nat))), some (.inl b), none, none] [.inl nv1] (Av1, Bv1, Yv1, Kv1, Tv1) (qI Q)))))
  exact ⟨by omega, fun _ => j27 _ (by omega) (Or.inr rfl), fun _ => ⟨by omega, m_find_50 (by omega) hK hT o1.1 o1.2 (fun k hk => hO.2.1 k hk) (fun r r1 r2 => j27 r r1 (by omega))⟩⟩
set_option maxRecDepth 100000 in
set_option maxHeartbeats 4000000 in
theorem h_index (hd : 8 ≤ d) (h : PZ B0 B Y st st cur op fr fr N F tp ow tk sc tm E ht rg bk) (hw : WT st (cur + 1) op) (hn : (st.length : Int) ≤ 20 * op + 13) (ho : 0 ≤ op ∧ op ≤ 10) (hp : N + PD st ≤ 3 * fr + 2) (hm : 64 * (3001 - fr) + SW st + 24 ≤ m) (hq : HQ B0 m A K T Q) : pzV d 37 [.inr (.inr 39)] (A, B, Y, K, T) Q := by
  obtain ⟨p1, p2, p3, p4, p5, p6, p7, p8⟩ := PZ_tk h
  have e := PZ_eq h
  have wl := WT_len hw
  have pd0 := PD_0 st
  refine pzV_of 21 [] [] ?_
  show (0 < d ∧ pzV (d - 1) 16 [.inr (.inr (39 : Nat))] (A, B, Y, K, T) (fun Av1 Bv1 Yv1 Kv1 Tv1 => ((-2147483648 ≤ (Bv1 39 10) ∧ (Bv1 39 10) < 2147483648) ∧ ((Bv1 39 10) ≤ (0 : Int) → (0 < d ∧ pzV (d - 1) 5 [.inr (.inr (39 : Nat))] (Av1, Bv1, Yv1, Kv1, Tv1) (fun Av2 Bv2 Yv2 Kv2 Tv2 => (0 < d ∧ pzV (d - 1) 20 [.inr (.inr (39 : Nat)), .inl (16 : Int), .inl (B 39 7), .inl (0 : Int), .inl (0 : Int), .inl (0 : Int)] (Av2, Bv2, Yv2, Kv2, Tv2) (fun Av3 Bv3 Yv3 Kv3 Tv3 => (0 < d ∧ pzV (d - 1) 21 [.inr (.inr (39 : Nat)), .inl (17 : Int)] (Av3, Bv3, Yv3, Kv3, Tv3) (fun Av4 Bv4 Yv4 Kv4 Tv4 => Q Av4 Bv4 Yv4 Kv4 Tv4))))))) ∧ ((0 : Int) < (Bv1 39 10) → Q Av1 Bv1 Yv1 Kv1 Tv1))))
  refine ⟨by omega, z_deeper (by omega) h ho (fun B1 f1 => ?_) (fun B1 o1 h1 s1 => ?_)⟩
  · have g := PF_eq f1
    exact ⟨by omega, fun z => absurd z (by omega), fun _ => hq.1 _ _ _ _ f1⟩
  · have e1 := PZ_eq h1
    refine ⟨by omega, fun _ => ⟨by omega, z_next (by omega) h1 (fun B2 Y2 f k g1 g2 h2 s2 => ⟨by omega, z_wait h2 (by omega) (td_16 (by omega)) (fun B3 h3 s3 => ⟨by omega, z_plain (by omega) h3 (by simp only [List.length_cons, true_and, and_true]; omega) (td_0 (by omega)) (fun B4 h4 s4 => ?_)⟩)⟩)⟩, fun z => absurd z (by omega)⟩
    exact hq.2.1 _ _ _ _ _ _ _ _ _ _ _ _ _ _ _ _ _ h4 (WT_c2 (tt_17 (by simp only [List.length_cons, true_and, and_true]; omega)) (WT_c2 (tt_16 (by omega)) hw (by omega) (by omega)) rfl rfl) (by first | omega | (simp only [PD_1, SW_1, PD_2, SW_2, PD_3, SW_3, PD_4, SW_4, PD_5, SW_5, PD_6, SW_6, PD_7, SW_7, PD_8, SW_8, PD_9, SW_9, PD_10, SW_10, PD_11, SW_11, PD_12, SW_12, PD_13, SW_13, PD_14, SW_14, PD_15, SW_15, PD_16, SW_16, PD_17, SW_17, PD_18, SW_18, PD_19, SW_19, PD_20, SW_20, PD_21, SW_21, PD_22, SW_22, PD_23, SW_23, PD_24, SW_24, PD_25, SW_25, PD_26, SW_26, PD_27, SW_27, PD_28, SW_28, PD_29, SW_29]; omega)) (by omega) (by first | omega | (simp only [PD_1, SW_1, PD_2, SW_2, PD_3, SW_3, PD_4, SW_4, PD_5, SW_5, PD_6, SW_6, PD_7, SW_7, PD_8, SW_8, PD_9, SW_9, PD_10, SW_10, PD_11, SW_11, PD_12, SW_12, PD_13, SW_13, PD_14, SW_14, PD_15, SW_15, PD_16, SW_16, PD_17, SW_17, PD_18, SW_18, PD_19, SW_19, PD_20, SW_20, PD_21, SW_21, PD_22, SW_22, PD_23, SW_23, PD_24, SW_24, PD_25, SW_25, PD_26, SW_26, PD_27, SW_27, PD_28, SW_28, PD_29, SW_29]; omega))
set_option maxRecDepth 100000 in
set_option maxHeartbeats 4000000 in
theorem h_asked (hd : 8 ≤ d) (h : PZ B0 B Y st st cur op fr fr N F tp ow tk sc tm E ht rg bk) (hw : WT st cur op) (hc : 1 ≤ cur) (hn : (st.length : Int) ≤ 20 * op + 3) (ho : 0 ≤ op ∧ op ≤ 10) (hp : N + PD st ≤ 3 * fr + 2) (hm : 64 * (3001 - fr) + SW st + 1 ≤ m) (hq : HQ B0 m A K T Q) : pzV d 38 [.inr (.inr 39)] (A, B, Y, K, T) Q := by
  obtain ⟨p1, p2, p3, p4, p5, p6, p7, p8⟩ := PZ_tk h
  have e := PZ_eq h
  have wl := WT_len hw
  have pd0 := PD_0 st
  have key : ∀ B2 Y2 f k s, fr < f → (s = 0 ∨ s = 1) → op ≤ 9 → PZ B0 B2 Y2 st st cur (op + 1) f f N F tp ow k sc tm E ht rg bk → 0 < d ∧ pzV (d - 1) 20 [.inr (.inr 39), .inl 19, .inl s, .inl 0, .inl 0, .inl 0] (A, B2, Y2, K, T) (fun A3 B3 Y3 K3 T3 => (0 < d ∧ pzV (d - 1) 21 [.inr (.inr 39), .inl 17] (A3, B3, Y3, K3, T3) (fun A4 B4 Y4 K4 T4 => Q A4 B4 Y4 K4 T4))) := by
    intro B2 Y2 f k s g hs o9 h2
    refine ⟨by omega, z_wait h2 (by omega) (td_19 hs (by omega)) (fun B3 h3 s3 => ⟨by omega, z_plain (by omega) h3 (by simp only [List.length_cons, true_and, and_true]; omega) (td_0 (by omega)) (fun B4 h4 s4 => ?_)⟩)⟩
    exact hq.2.1 _ _ _ _ _ _ _ _ _ _ _ _ _ _ _ _ _ h4 (WT_c2 (tt_17 (by simp only [List.length_cons, true_and, and_true]; omega)) (WT_c2 (tt_19 (by omega)) hw (by omega) (by omega)) rfl rfl) (by first | omega | (simp only [PD_1, SW_1, PD_2, SW_2, PD_3, SW_3, PD_4, SW_4, PD_5, SW_5, PD_6, SW_6, PD_7, SW_7, PD_8, SW_8, PD_9, SW_9, PD_10, SW_10, PD_11, SW_11, PD_12, SW_12, PD_13, SW_13, PD_14, SW_14, PD_15, SW_15, PD_16, SW_16, PD_17, SW_17, PD_18, SW_18, PD_19, SW_19, PD_20, SW_20, PD_21, SW_21, PD_22, SW_22, PD_23, SW_23, PD_24, SW_24, PD_25, SW_25, PD_26, SW_26, PD_27, SW_27, PD_28, SW_28, PD_29, SW_29]; omega)) (by omega) (by first | omega | (simp only [PD_1, SW_1, PD_2, SW_2, PD_3, SW_3, PD_4, SW_4, PD_5, SW_5, PD_6, SW_6, PD_7, SW_7, PD_8, SW_8, PD_9, SW_9, PD_10, SW_10, PD_11, SW_11, PD_12, SW_12, PD_13, SW_13, PD_14, SW_14, PD_15, SW_15, PD_16, SW_16, PD_17, SW_17, PD_18, SW_18, PD_19, SW_19, PD_20, SW_20, PD_21, SW_21, PD_22, SW_22, PD_23, SW_23, PD_24, SW_24, PD_25, SW_25, PD_26, SW_26, PD_27, SW_27, PD_28, SW_28, PD_29, SW_29]; omega))
  refine pzV_of 28 [] [] ?_
  show ((-2147483648 ≤ (B 39 6) ∧ (B 39 6) < 2147483648) ∧ (-2147483648 ≤ (63 : Int) ∧ (63 : Int) < 2147483648) ∧ ((B 39 6) = (63 : Int) → (0 < d ∧ pzV (d - 1) 16 [.inr (.inr (39 : Nat))] (A, B, Y, K, T) (fun Av1 Bv1 Yv1 Kv1 Tv1 => ((-2147483648 ≤ (Bv1 39 10) ∧ (Bv1 39 10) < 2147483648) ∧ ((Bv1 39 10) ≤ (0 : Int) → (0 < d ∧ pzV (d - 1) 5 [.inr (.inr (39 : Nat))] (Av1, Bv1, Yv1, Kv1, Tv1) (fun Av2 Bv2 Yv2 Kv2 Tv2 => ((-2147483648 ≤ (B 39 42) ∧ (B 39 42) < 2147483648) ∧ ((B 39 42) = (0 : Int) → (0 < d ∧ pzV (d - 1) 20 [.inr (.inr (39 : Nat)), .inl (19 : Int), .inl (0 : Int), .inl (0 : Int), .inl (0 : Int), .inl (0 : Int)] (Av2, Bv2, Yv2, Kv2, Tv2) (fun Av3 Bv3 Yv3 Kv3 Tv3 => (0 < d ∧ pzV (d - 1) 21 [.inr (.inr (39 : Nat)), .inl (17 : Int)] (Av3, Bv3, Yv3, Kv3, Tv3) (fun Av4 Bv4 Yv4 Kv4 Tv4 => Q Av4 Bv4 Yv4 Kv4 Tv4))))) ∧ ((B 39 42) ≠ (0 : Int) → (0 < d ∧ pzV (d - 1) 20 [.inr (.inr (39 : Nat)), .inl (19 : Int), .inl (1 : Int), .inl (0 : Int), .inl (0 : Int), .inl (0 : Int)] (Av2, Bv2, Yv2, Kv2, Tv2) (fun Av5 Bv5 Yv5 Kv5 Tv5 => (0 < d ∧ pzV (d - 1) 21 [.inr (.inr (39 : Nat)), .inl (17 : Int)] (Av5, Bv5, Yv5, Kv5, Tv5) (fun Av6 Bv6 Yv6 Kv6 Tv6 => Q Av6 Bv6 Yv6 Kv6 Tv6))))))))) ∧ ((0 : Int) < (Bv1 39 10) → Q Av1 Bv1 Yv1 Kv1 Tv1))))) ∧ ((B 39 6) ≠ (63 : Int) → Q A B Y K T))
  refine ⟨by omega, by omega, fun z => ⟨by omega, z_deeper (by omega) h ho (fun B1 f1 => ?_) (fun B1 o1 h1 s1 => ?_)⟩, fun _ => hq.2.1 _ _ _ _ _ _ _ _ _ _ _ _ _ _ _ _ _ h hw (by first | omega | (simp only [PD_1, SW_1, PD_2, SW_2, PD_3, SW_3, PD_4, SW_4, PD_5, SW_5, PD_6, SW_6, PD_7, SW_7, PD_8, SW_8, PD_9, SW_9, PD_10, SW_10, PD_11, SW_11, PD_12, SW_12, PD_13, SW_13, PD_14, SW_14, PD_15, SW_15, PD_16, SW_16, PD_17, SW_17, PD_18, SW_18, PD_19, SW_19, PD_20, SW_20, PD_21, SW_21, PD_22, SW_22, PD_23, SW_23, PD_24, SW_24, PD_25, SW_25, PD_26, SW_26, PD_27, SW_27, PD_28, SW_28, PD_29, SW_29]; omega)) (by omega) (by first | omega | (simp only [PD_1, SW_1, PD_2, SW_2, PD_3, SW_3, PD_4, SW_4, PD_5, SW_5, PD_6, SW_6, PD_7, SW_7, PD_8, SW_8, PD_9, SW_9, PD_10, SW_10, PD_11, SW_11, PD_12, SW_12, PD_13, SW_13, PD_14, SW_14, PD_15, SW_15, PD_16, SW_16, PD_17, SW_17, PD_18, SW_18, PD_19, SW_19, PD_20, SW_20, PD_21, SW_21, PD_22, SW_22, PD_23, SW_23, PD_24, SW_24, PD_25, SW_25, PD_26, SW_26, PD_27, SW_27, PD_28, SW_28, PD_29, SW_29]; omega))⟩
  · have g := PF_eq f1
    exact ⟨by omega, fun z => absurd z (by omega), fun _ => hq.1 _ _ _ _ f1⟩
  · have e1 := PZ_eq h1
    refine ⟨by omega, fun _ => ⟨by omega, z_next (by omega) h1 (fun B2 Y2 f k g1 g2 h2 s2 => ⟨by omega, fun _ => key B2 Y2 f k 0 (g2 (by omega)) (Or.inl rfl) o1 h2, fun _ => key B2 Y2 f k 1 (g2 (by omega)) (Or.inr rfl) o1 h2⟩)⟩, fun z => absurd z (by omega)⟩
set_option maxRecDepth 100000 in
set_option maxHeartbeats 4000000 in
theorem h_first {z : Int} (hd : 8 ≤ d) (h : PZ B0 B Y st st cur op fr fr N F tp ow tk sc tm E ht rg bk) (hz : z = 0 ∨ z = 1) (hw : WT st (cur - 1) (op - 1)) (hc : 2 ≤ cur) (hn : (st.length : Int) ≤ 20 * op - 8) (ho : 1 ≤ op ∧ op ≤ 10) (hp : N + 1 + PD st ≤ 3 * fr + 2) (hm : 64 * (3001 - fr) + SW st + 1 ≤ m) (hq : HQ B0 m A K T Q) : pzV d 39 [.inr (.inr 39), .inl z] (A, B, Y, K, T) Q := by
  obtain ⟨p1, p2, p3, p4, p5, p6, p7, p8⟩ := PZ_tk h
  have e := PZ_eq h
  have wl := WT_len hw
  have pd0 := PD_0 st
  have key : ∀ B2 Y2 f k s, fr < f → (s = 0 ∨ s = 1) → PZ B0 B2 Y2 st st cur ((B 39 20) - 1 + 1) f f N F tp ow k sc tm E ht rg bk → 0 < d ∧ pzV (d - 1) 20 [.inr (.inr 39), .inl 20, .inl s, .inl 0, .inl 0, .inl 0] (A, B2, Y2, K, T) (fun A3 B3 Y3 K3 T3 => (0 < d ∧ pzV (d - 1) 21 [.inr (.inr 39), .inl 17] (A3, B3, Y3, K3, T3) (fun A4 B4 Y4 K4 T4 => Q A4 B4 Y4 K4 T4))) := by
    intro B2 Y2 f k s g hs h2
    refine ⟨by omega, z_wait h2 (by omega) (td_19 hs (by omega)) (fun B3 h3 s3 => ⟨by omega, z_plain (by omega) h3 (by simp only [List.length_cons, true_and, and_true]; omega) (td_0 (by omega)) (fun B4 h4 s4 => ?_)⟩)⟩
    exact hq.2.1 _ _ _ _ _ _ _ _ _ _ _ _ _ _ _ _ _ h4 (WT_c2 (tt_17 (by simp only [List.length_cons, true_and, and_true]; omega)) (WT_c2 (tt_20 (by omega)) hw (by omega) (by omega)) rfl rfl) (by first | omega | (simp only [PD_1, SW_1, PD_2, SW_2, PD_3, SW_3, PD_4, SW_4, PD_5, SW_5, PD_6, SW_6, PD_7, SW_7, PD_8, SW_8, PD_9, SW_9, PD_10, SW_10, PD_11, SW_11, PD_12, SW_12, PD_13, SW_13, PD_14, SW_14, PD_15, SW_15, PD_16, SW_16, PD_17, SW_17, PD_18, SW_18, PD_19, SW_19, PD_20, SW_20, PD_21, SW_21, PD_22, SW_22, PD_23, SW_23, PD_24, SW_24, PD_25, SW_25, PD_26, SW_26, PD_27, SW_27, PD_28, SW_28, PD_29, SW_29]; omega)) (by omega) (by first | omega | (simp only [PD_1, SW_1, PD_2, SW_2, PD_3, SW_3, PD_4, SW_4, PD_5, SW_5, PD_6, SW_6, PD_7, SW_7, PD_8, SW_8, PD_9, SW_9, PD_10, SW_10, PD_11, SW_11, PD_12, SW_12, PD_13, SW_13, PD_14, SW_14, PD_15, SW_15, PD_16, SW_16, PD_17, SW_17, PD_18, SW_18, PD_19, SW_19, PD_20, SW_20, PD_21, SW_21, PD_22, SW_22, PD_23, SW_23, PD_24, SW_24, PD_25, SW_25, PD_26, SW_26, PD_27, SW_27, PD_28, SW_28, PD_29, SW_29]; omega))
  have j16 : ∀ x, (x = 0 ∨ x = 1) → pq d 39 16 [some (.inr (.inr 39)), none, none] [.inl x] (A, B, Y, K, T) (qV Q) := by
    intro x hx
    have h0 := PZ_open h ((B 39 20) - 1)
    refine pq_of 32 [] [] ?_
    show ((-2147483648 ≤ (B 39 6) ∧ (B 39 6) < 2147483648) ∧ (-2147483648 ≤ (58 : Int) ∧ (58 : Int) < 2147483648) ∧ ((B 39 6) = (58 : Int) → (0 < d ∧ pzV (d - 1) 16 [.inr (.inr (39 : Nat))] (A, (zu B 39 20 ((B 39 20) - (1 : Int))), Y, K, T) (fun Av1 Bv1 Yv1 Kv1 Tv1 => ((-2147483648 ≤ (Bv1 39 10) ∧ (Bv1 39 10) < 2147483648) ∧ ((Bv1 39 10) ≤ (0 : Int) → (0 < d ∧ pzV (d - 1) 5 [.inr (.inr (39 : Nat))] (Av1, Bv1, Yv1, Kv1, Tv1) (fun Av2 Bv2 Yv2 Kv2 Tv2 => ((-2147483648 ≤ x ∧ x < 2147483648) ∧ (x = (0 : Int) → (0 < d ∧ pzV (d - 1) 20 [.inr (.inr (39 : Nat)), .inl (20 : Int), .inl (0 : Int), .inl (0 : Int), .inl (0 : Int), .inl (0 : Int)] (Av2, Bv2, Yv2, Kv2, Tv2) (fun Av3 Bv3 Yv3 Kv3 Tv3 => (0 < d ∧ pzV (d - 1) 21 [.inr (.inr (39 : Nat)), .inl (17 : Int)] (Av3, Bv3, Yv3, Kv3, Tv3) (fun Av4 Bv4 Yv4 Kv4 Tv4 => Q Av4 Bv4 Yv4 Kv4 Tv4))))) ∧ (x ≠ (0 : Int) → (0 < d ∧ pzV (d - 1) 20 [.inr (.inr (39 : Nat)), .inl (20 : Int), .inl (1 : Int), .inl (0 : Int), .inl (0 : Int), .inl (0 : Int)] (Av2, Bv2, Yv2, Kv2, Tv2) (fun Av5 Bv5 Yv5 Kv5 Tv5 => (0 < d ∧ pzV (d - 1) 21 [.inr (.inr (39 : Nat)), .inl (17 : Int)] (Av5, Bv5, Yv5, Kv5, Tv5) (fun Av6 Bv6 Yv6 Kv6 Tv6 => Q Av6 Bv6 Yv6 Kv6 Tv6))))))))) ∧ ((0 : Int) < (Bv1 39 10) → Q Av1 Bv1 Yv1 Kv1 Tv1))))) ∧ ((B 39 6) ≠ (58 : Int) → (0 < d ∧ pzV (d - 1) 9 [.inr (.inr (39 : Nat)), .inl (1 : Int)] (A, (zu B 39 20 ((B 39 20) - (1 : Int))), Y, K, T) (fun Av7 Bv7 Yv7 Kv7 Tv7 => Q Av7 Bv7 Yv7 Kv7 Tv7))))
    refine ⟨by omega, by omega, fun z => ⟨by omega, z_deeper (by omega) h0 (by omega) (fun B1 f1 => ?_) (fun B1 o1 h1 s1 => ?_)⟩, fun z => ⟨by omega, z_fail h0 (by omega) (by omega) (fun B1 f1 _ => hq.1 _ _ _ _ f1)⟩⟩
    · have g := PF_eq f1
      exact ⟨by omega, fun z => absurd z (by omega), fun _ => hq.1 _ _ _ _ f1⟩
    · have e1 := PZ_eq h1
      refine ⟨by omega, fun _ => ⟨by omega, z_next (by omega) h1 (fun B2 Y2 f k g1 g2 h2 s2 => ⟨by omega, fun _ => key B2 Y2 f k 0 (g2 (by omega)) (Or.inl rfl) h2, fun _ => key B2 Y2 f k 1 (g2 (by omega)) (Or.inr rfl) h2⟩)⟩, fun z => absurd z (by omega)⟩
  refine pzV_of 7 [(16, [1])] [] ?_
  show ((-2147483648 ≤ (B 39 42) ∧ (B 39 42) < 2147483648) ∧ ((B 39 42) ≠ (0 : Int) → pq d 39 16 [some (.inr (.inr (39 : Nat))), none, none] [.inl (1 : Int)] (A, B, Y, K, T) (qV Q)) ∧ ((B 39 42) = (0 : Int) → ((-2147483648 ≤ z ∧ z < 2147483648) ∧ (z = (0 : Int) → pq d 39 16 [some (.inr (.inr (39 : Nat))), none, none] [.inl (0 : Int)] (A, B, Y, K, T) (qV Q)) ∧ (z ≠ (0 : Int) → pq d 39 16 [some (.inr (.inr (39 : Nat))), none, none] [.inl (1 : Int)] (A, B, Y, K, T) (qV Q)))))
  exact ⟨by omega, fun _ => j16 1 (Or.inr rfl), fun _ => ⟨by omega, fun _ => j16 0 (Or.inl rfl), fun _ => j16 1 (Or.inr rfl)⟩⟩
set_option maxRecDepth 100000 in
set_option maxHeartbeats 4000000 in
theorem h_levelOn {l : Int} (hd : 8 ≤ d) (h : PZ B0 B Y st st cur op fr fr N F tp ow tk sc tm E ht rg bk) (hl : 0 ≤ l ∧ l ≤ 7) (hw : WT st cur op) (hc : 1 ≤ cur) (hn : (st.length : Int) ≤ 20 * op + 4 + l) (ho : 0 ≤ op ∧ op ≤ 10) (hp : N + PD st ≤ 3 * fr + 2) (hm : 64 * (3001 - fr) + SW st + 1 ≤ m) (hq : HQ B0 m A K T Q) : pzV d 41 [.inr (.inr 39), .inl l] (A, B, Y, K, T) Q := by
  obtain ⟨p1, p2, p3, p4, p5, p6, p7, p8⟩ := PZ_tk h
  have e := PZ_eq h
  have wl := WT_len hw
  have pd0 := PD_0 st
  have key : ∀ s, isop tk → (s = 0 ∨ s = 1) → 0 < d ∧ pzV (d - 1) 20 [.inr (.inr 39), .inl 23, .inl l, .inl (B 39 6), .inl (B 39 7), .inl s] (A, B, Y, K, T) (fun A2 B2 Y2 K2 T2 => (0 < d ∧ pzV (d - 1) 5 [.inr (.inr 39)] (A2, B2, Y2, K2, T2) (fun A3 B3 Y3 K3 T3 => (0 < d ∧ pzV (d - 1) 20 [.inr (.inr 39), .inl 21, .inl (l + 1), .inl 0, .inl 0, .inl 0] (A3, B3, Y3, K3, T3) (fun A4 B4 Y4 K4 T4 => Q A4 B4 Y4 K4 T4))))) := by
    intro s hop hs
    have h12 := isop_12 hop
    have hop2 : isop (B 39 6) := by rw [e.2.2.2.2.2.2.2.1]; exact hop
    refine ⟨by omega, z_wait h (by omega) (td_23 hl hop2 (by omega) hs) (fun B2 h2 s2 => ⟨by omega, z_next (by omega) h2 (fun B3 Y3 f k g1 g2 h3 s3 => ⟨by omega, z_wait h3 (by simp only [List.length_cons, true_and, and_true]; omega) (td_21 (by omega)) (fun B4 h4 s4 => ?_)⟩)⟩)⟩
    have g3 := g2 h12
    exact hq.2.1 _ _ _ _ _ _ _ _ _ _ _ _ _ _ _ _ _ h4 (WT_c2 (tt_21 (by simp only [List.length_cons, true_and, and_true]; omega)) (WT_c2 (tt_23 (by omega)) hw (by omega) (by omega)) rfl rfl) (by first | omega | (simp only [PD_1, SW_1, PD_2, SW_2, PD_3, SW_3, PD_4, SW_4, PD_5, SW_5, PD_6, SW_6, PD_7, SW_7, PD_8, SW_8, PD_9, SW_9, PD_10, SW_10, PD_11, SW_11, PD_12, SW_12, PD_13, SW_13, PD_14, SW_14, PD_15, SW_15, PD_16, SW_16, PD_17, SW_17, PD_18, SW_18, PD_19, SW_19, PD_20, SW_20, PD_21, SW_21, PD_22, SW_22, PD_23, SW_23, PD_24, SW_24, PD_25, SW_25, PD_26, SW_26, PD_27, SW_27, PD_28, SW_28, PD_29, SW_29]; omega)) (by omega) (by first | omega | (simp only [PD_1, SW_1, PD_2, SW_2, PD_3, SW_3, PD_4, SW_4, PD_5, SW_5, PD_6, SW_6, PD_7, SW_7, PD_8, SW_8, PD_9, SW_9, PD_10, SW_10, PD_11, SW_11, PD_12, SW_12, PD_13, SW_13, PD_14, SW_14, PD_15, SW_15, PD_16, SW_16, PD_17, SW_17, PD_18, SW_18, PD_19, SW_19, PD_20, SW_20, PD_21, SW_21, PD_22, SW_22, PD_23, SW_23, PD_24, SW_24, PD_25, SW_25, PD_26, SW_26, PD_27, SW_27, PD_28, SW_28, PD_29, SW_29]; omega))
  refine pzV_of 30 [] [] ?_
  show (0 < d ∧ pzI (d - 1) 40 [.inl (B 39 6)] (A, B, Y, K, T) (fun nv1 Av1 Bv1 Yv1 Kv1 Tv1 => ((-2147483648 ≤ nv1 ∧ nv1 < 2147483648) ∧ (-2147483648 ≤ l ∧ l < 2147483648) ∧ (nv1 = l → ((-2147483648 ≤ (Bv1 39 42) ∧ (Bv1 39 42) < 2147483648) ∧ ((Bv1 39 42) = (0 : Int) → (0 < d ∧ pzV (d - 1) 20 [.inr (.inr (39 : Nat)), .inl (23 : Int), .inl l, .inl (Bv1 39 6), .inl (Bv1 39 7), .inl (0 : Int)] (Av1, Bv1, Yv1, Kv1, Tv1) (fun Av2 Bv2 Yv2 Kv2 Tv2 => (0 < d ∧ pzV (d - 1) 5 [.inr (.inr (39 : Nat))] (Av2, Bv2, Yv2, Kv2, Tv2) (fun Av3 Bv3 Yv3 Kv3 Tv3 => (0 < d ∧ pzV (d - 1) 20 [.inr (.inr (39 : Nat)), .inl (21 : Int), .inl (l + (1 : Int)), .inl (0 : Int), .inl (0 : Int), .inl (0 : Int)] (Av3, Bv3, Yv3, Kv3, Tv3) (fun Av4 Bv4 Yv4 Kv4 Tv4 => Q Av4 Bv4 Yv4 Kv4 Tv4))))))) ∧ ((Bv1 39 42) ≠ (0 : Int) → (0 < d ∧ pzV (d - 1) 20 [.inr (.inr (39 : Nat)), .inl (23 : Int), .inl l, .inl (Bv1 39 6), .inl (Bv1 39 7), .inl (1 : Int)] (Av1, Bv1, Yv1, Kv1, Tv1) (fun Av5 Bv5 Yv5 Kv5 Tv5 => (0 < d ∧ pzV (d - 1) 5 [.inr (.inr (39 : Nat))] (Av5, Bv5, Yv5, Kv5, Tv5) (fun Av6 Bv6 Yv6 Kv6 Tv6 => (0 < d ∧ pzV (d - 1) 20 [.inr (.inr (39 : Nat)), .inl (21 : Int), .inl (l + (1 : Int)), .inl (0 : Int), .inl (0 : Int), .inl (0 : Int)] (Av6, Bv6, Yv6, Kv6, Tv6) (fun Av7 Bv7 Yv7 Kv7 Tv7 => Q Av7 Bv7 Yv7 Kv7 Tv7))))))))) ∧ (nv1 ≠ l → Q Av1 Bv1 Yv1 Kv1 Tv1))))
  refine ⟨by omega, m_levelOf (by omega) (fun l1 hl1 => ⟨by omega, by omega, fun z => ?_, fun z => hq.2.1 _ _ _ _ _ _ _ _ _ _ _ _ _ _ _ _ _ h hw (by first | omega | (simp only [PD_1, SW_1, PD_2, SW_2, PD_3, SW_3, PD_4, SW_4, PD_5, SW_5, PD_6, SW_6, PD_7, SW_7, PD_8, SW_8, PD_9, SW_9, PD_10, SW_10, PD_11, SW_11, PD_12, SW_12, PD_13, SW_13, PD_14, SW_14, PD_15, SW_15, PD_16, SW_16, PD_17, SW_17, PD_18, SW_18, PD_19, SW_19, PD_20, SW_20, PD_21, SW_21, PD_22, SW_22, PD_23, SW_23, PD_24, SW_24, PD_25, SW_25, PD_26, SW_26, PD_27, SW_27, PD_28, SW_28, PD_29, SW_29]; omega)) (by omega) (by first | omega | (simp only [PD_1, SW_1, PD_2, SW_2, PD_3, SW_3, PD_4, SW_4, PD_5, SW_5, PD_6, SW_6, PD_7, SW_7, PD_8, SW_8, PD_9, SW_9, PD_10, SW_10, PD_11, SW_11, PD_12, SW_12, PD_13, SW_13, PD_14, SW_14, PD_15, SW_15, PD_16, SW_16, PD_17, SW_17, PD_18, SW_18, PD_19, SW_19, PD_20, SW_20, PD_21, SW_21, PD_22, SW_22, PD_23, SW_23, PD_24, SW_24, PD_25, SW_25, PD_26, SW_26, PD_27, SW_27, PD_28, SW_28, PD_29, SW_29]; omega))⟩)⟩
  rcases hl1 with w | ⟨w1, w2⟩
  · omega
  · rw [e.2.2.2.2.2.2.2.1] at w2
    exact ⟨by omega, fun _ => key 0 w2 (Or.inl rfl), fun _ => key 1 w2 (Or.inr rfl)⟩
set_option maxRecDepth 100000 in
set_option maxHeartbeats 4000000 in
theorem h_callEnd {f n : Int} (hd : 8 ≤ d) (h : PZ B0 B Y st st cur op fr fr N F tp ow tk sc tm E ht rg bk) (hf : 0 ≤ f ∧ f < F) (hnn : 0 ≤ n ∧ n ≤ cur) (hcu : cur ≤ 3000) (hw : WT st (cur - n + 1) (op - 1)) (ho : 1 ≤ op ∧ op ≤ 10) (hln : st.length ≤ 1000) (hp : N + 1 + PD st ≤ 3 * fr + 2) (hm : 64 * (3001 - fr) + SW st ≤ m) (hq : HQ B0 m A K T Q) : pzV d 46 [.inr (.inr 39), .inl f, .inl n] (A, B, Y, K, T) Q := by
  obtain ⟨p1, p2, p3, p4, p5, p6, p7, p8⟩ := PZ_tk h
  have e := PZ_eq h
  have wl := WT_len hw
  have pd0 := PD_0 st
  obtain ⟨-, -, -, -, -, -, -, hG, -, -, hC, -⟩ := id h
  have hpf := (hC.2.2.2.2.2.2.2 f.toNat (by omega)).2.2.2.2
  have j37 : ∀ B1 on tn, on ≤ 11000 → PF B0 B1 Y on tn → pq d 46 37 [some (.inr (.inr 39)), some (.inl f), none] [] (A, B1, Y, K, T) (qV Q) := by
    intro B1 on tn hon f1
    have g := PF_eq f1
    have f2 := PF_open f1 ((B1 39 20) - 1)
    refine pq_of 18 [] [] ?_
    show (0 < d ∧ pzV (d - 1) 15 [.inr (.inr (39 : Nat)), .inl (11 : Int), .inl f, .inl (0 : Int)] (A, (zu B1 39 20 ((B1 39 20) - (1 : Int))), Y, K, T) (fun Av1 Bv1 Yv1 Kv1 Tv1 => ((0 ≤ f ∧ f < (6 : Int)) ∧ (((Bv1 49 (f).toNat) = 0 ∨ (Bv1 49 (f).toNat) = 1) ∧ Q Av1 (zu Bv1 39 42 (Bv1 49 (f).toNat)) Yv1 Kv1 Tv1))))
    refine ⟨by omega, f_say f2 (by omega) (fun B3 f3 => ⟨by omega, ?_, hq.1 _ _ _ _ (PF_sec f3 ?_)⟩)⟩
    · obtain ⟨-, -, -, -, -, -, -, -, g3, -⟩ := f3
      exact g3.2.2.1 _
    · obtain ⟨-, -, -, -, -, -, -, -, g3, -⟩ := f3
      exact g3.2.2.1 _
  have j31 : (tk = 41 → n = (B 55) f.toNat) → pq d 46 31 [some (.inr (.inr 39)), some (.inl f), none] [] (A, B, Y, K, T) (qV Q) := by
    intro hpn
    refine pq_of 3 [(37, [])] [] ?_
    show (0 < d ∧ pzV (d - 1) 11 [.inr (.inr (39 : Nat)), .inl (41 : Int)] (A, B, Y, K, T) (fun Av1 Bv1 Yv1 Kv1 Tv1 => pq d 46 37 [some (.inr (.inr (39 : Nat))), some (.inl f), none] [] (Av1, Bv1, Yv1, Kv1, Tv1) (qV Q)))
    refine ⟨by omega, z_must (by omega) h (by omega) (by omega) (fun B1 f1 => j37 B1 _ _ (by omega) f1) (fun B1 Y1 fr1 k z g1 g2 h1 s1 => ?_)⟩
    have g3 := g2 (by omega)
    have e1 := PZ_eq h1
    have h2 := PZ_open h1 ((B1 39 20) - 1)
    obtain ⟨-, -, -, -, q5, -⟩ := SM_k s1
    have hpn := hpn z
    have at1 : fr1 ≤ (B1 39 5) := e1.2.2.2.2.2.2.2.2.2.2.1
    refine pq_of 18 [] [] ?_
    show (0 < d ∧ pzV (d - 1) 15 [.inr (.inr (39 : Nat)), .inl (11 : Int), .inl f, .inl (0 : Int)] (A, (zu B1 39 20 ((B1 39 20) - (1 : Int))), Y1, K, T) (fun Av1 Bv1 Yv1 Kv1 Tv1 => ((0 ≤ f ∧ f < (6 : Int)) ∧ (((Bv1 49 (f).toNat) = 0 ∨ (Bv1 49 (f).toNat) = 1) ∧ Q Av1 (zu Bv1 39 42 (Bv1 49 (f).toNat)) Yv1 Kv1 Tv1))))
    refine ⟨by omega, z_say (y := cur - n + 1) (fc' := fr1) h2 (by omega) (Int.le_refl _) at1 (by omega) (by omega) (Or.inr (Or.inr (Or.inr (Or.inr (Or.inr (Or.inr (Or.inr (Or.inr (Or.inr (Or.inr (Or.inl ⟨rfl, hf, ?_, ?_⟩))))))))))) (fun B3 ht3 rg3 bk3 h3 s3 l3 => ⟨by omega, ?_, ?_⟩)⟩
    · show (B1 55) f.toNat ≤ cur
      rw [q5]
      omega
    · show cur - n + 1 = cur - (B1 55) f.toNat + 1
      rw [q5]
      omega
    · obtain ⟨-, -, -, -, -, -, -, g5, -⟩ := h3
      exact g5.2.2.1 _
    · have hs : (B3 49) f.toNat = 0 ∨ (B3 49) f.toNat = 1 := by
        obtain ⟨-, -, -, -, -, -, -, g5, -⟩ := h3
        exact g5.2.2.1 _
      have hw2 : WT st (cur - n + 1) ((B1 39 20) - 1) := by rw [e1.2.1]; exact hw
      exact hq.2.1 _ _ _ _ _ _ _ _ _ _ _ _ _ _ _ _ _ (PZ_sec h3 hs) hw2 (by first | omega | (simp only [PD_1, SW_1, PD_2, SW_2, PD_3, SW_3, PD_4, SW_4, PD_5, SW_5, PD_6, SW_6, PD_7, SW_7, PD_8, SW_8, PD_9, SW_9, PD_10, SW_10, PD_11, SW_11, PD_12, SW_12, PD_13, SW_13, PD_14, SW_14, PD_15, SW_15, PD_16, SW_16, PD_17, SW_17, PD_18, SW_18, PD_19, SW_19, PD_20, SW_20, PD_21, SW_21, PD_22, SW_22, PD_23, SW_23, PD_24, SW_24, PD_25, SW_25, PD_26, SW_26, PD_27, SW_27, PD_28, SW_28, PD_29, SW_29]; omega)) (by omega) (by first | omega | (simp only [PD_1, SW_1, PD_2, SW_2, PD_3, SW_3, PD_4, SW_4, PD_5, SW_5, PD_6, SW_6, PD_7, SW_7, PD_8, SW_8, PD_9, SW_9, PD_10, SW_10, PD_11, SW_11, PD_12, SW_12, PD_13, SW_13, PD_14, SW_14, PD_15, SW_15, PD_16, SW_16, PD_17, SW_17, PD_18, SW_18, PD_19, SW_19, PD_20, SW_20, PD_21, SW_21, PD_22, SW_22, PD_23, SW_23, PD_24, SW_24, PD_25, SW_25, PD_26, SW_26, PD_27, SW_27, PD_28, SW_28, PD_29, SW_29]; omega))
  have j26 : pq d 46 26 [some (.inr (.inr 39)), some (.inl f), none] [] (A, B, Y, K, T) (qV Q) := by
    refine pq_of 3 [(31, []), (37, [])] [] ?_
    show (0 < d ∧ pzV (d - 1) 9 [.inr (.inr (39 : Nat)), .inl (5 : Int)] (A, B, Y, K, T) (fun Av1 Bv1 Yv1 Kv1 Tv1 => pq d 46 31 [some (.inr (.inr (39 : Nat))), some (.inl f), none] [] (Av1, Bv1, Yv1, Kv1, Tv1) (qV Q)))
    refine ⟨by omega, z_fail h (by omega) (by omega) (fun B1 f1 _ => ?_)⟩
    refine pq_of 3 [(37, [])] [] ?_
    show (0 < d ∧ pzV (d - 1) 11 [.inr (.inr (39 : Nat)), .inl (41 : Int)] (A, B1, Y, K, T) (fun Av1 Bv1 Yv1 Kv1 Tv1 => pq d 46 37 [some (.inr (.inr (39 : Nat))), some (.inl f), none] [] (Av1, Bv1, Yv1, Kv1, Tv1) (qV Q)))
    exact ⟨by omega, f_must (by omega) f1 (by omega) (fun B2 f2 => j37 B2 _ _ (by omega) f2)⟩
  refine pzV_of 13 [(26, [2]), (31, [2])] [] ?_
  show ((-2147483648 ≤ (B 39 10) ∧ (B 39 10) < 2147483648) ∧ ((B 39 10) ≠ (0 : Int) → pq d 46 31 [some (.inr (.inr (39 : Nat))), some (.inl f), none] [] (A, B, Y, K, T) (qV Q)) ∧ ((B 39 10) = (0 : Int) → ((-2147483648 ≤ (B 39 6) ∧ (B 39 6) < 2147483648) ∧ (-2147483648 ≤ (41 : Int) ∧ (41 : Int) < 2147483648) ∧ ((B 39 6) ≠ (41 : Int) → pq d 46 31 [some (.inr (.inr (39 : Nat))), some (.inl f), none] [] (A, B, Y, K, T) (qV Q)) ∧ ((B 39 6) = (41 : Int) → ((0 ≤ f ∧ f < (6 : Int)) ∧ ((-2147483648 ≤ n ∧ n < 2147483648) ∧ (-2147483648 ≤ (B 55 (f).toNat) ∧ (B 55 (f).toNat) < 2147483648) ∧ (n = (B 55 (f).toNat) → pq d 46 31 [some (.inr (.inr (39 : Nat))), some (.inl f), none] [] (A, B, Y, K, T) (qV Q)) ∧ (n ≠ (B 55 (f).toNat) → pq d 46 26 [some (.inr (.inr (39 : Nat))), some (.inl f), none] [] (A, B, Y, K, T) (qV Q))))))))
  exact ⟨by omega, fun z => j31 (fun _ => absurd e.1 z), fun _ => ⟨by omega, by omega, fun z => j31 (fun w => absurd (by omega) z), fun z => ⟨by omega, by omega, by omega, fun w => j31 (fun _ => w), fun w => j26⟩⟩⟩
set_option maxRecDepth 100000 in
set_option maxHeartbeats 4000000 in
theorem h_given {f n p : Int} (hd : 10 ≤ d) (h : PZ B0 B Y st st cur op fr fr N F tp ow tk sc tm E ht rg bk) (hf : 0 ≤ f ∧ f < F) (hnn : 0 ≤ n ∧ n + 1 ≤ cur) (hcu : cur ≤ 3000) (hpi : -2147483648 ≤ p ∧ p < 2147483648) (hw : WT st (cur - n) (op - 1)) (ho : 1 ≤ op ∧ op ≤ 10) (hln : (st.length : Int) ≤ 20 * op - 8) (hp : N + 1 + PD st ≤ 3 * fr + 2) (hm : 64 * (3001 - fr) + SW st + 1 ≤ m) (hq : HQ B0 m A K T Q) : pzV d 45 [.inr (.inr 39), .inl f, .inl n, .inl p] (A, B, Y, K, T) Q := by
  obtain ⟨p1, p2, p3, p4, p5, p6, p7, p8⟩ := PZ_tk h
  have e := PZ_eq h
  have wl := WT_len hw
  have pd0 := PD_0 st
  obtain ⟨-, -, -, -, -, -, -, hG, -, -, hC, -⟩ := id h
  have hpf := (hC.2.2.2.2.2.2.2 f.toNat (by omega)).2.2.2.2
  have hps := hG.2.2.2 ((12 : Int) * f + n).toNat
  have j38 : ∀ B1, PZ B0 B1 Y st st cur op fr fr N F tp ow tk sc tm E ht rg bk → pq d 45 38 [some (.inr (.inr 39)), some (.inl f), some (.inl n), none] [] (A, B1, Y, K, T) (qV Q) := by
    intro B1 h1
    refine pq_of 15 [] [] ?_
    show (0 < d ∧ pzI (d - 1) 10 [.inr (.inr (39 : Nat)), .inl (44 : Int)] (A, B1, Y, K, T) (fun nv1 Av1 Bv1 Yv1 Kv1 Tv1 => ((-2147483648 ≤ nv1 ∧ nv1 < 2147483648) ∧ (nv1 = (0 : Int) → (0 < d ∧ pzV (d - 1) 46 [.inr (.inr (39 : Nat)), .inl f, .inl (n + (1 : Int))] (Av1, Bv1, Yv1, Kv1, Tv1) (fun Av2 Bv2 Yv2 Kv2 Tv2 => Q Av2 Bv2 Yv2 Kv2 Tv2))) ∧ (nv1 ≠ (0 : Int) → (0 < d ∧ pzV (d - 1) 20 [.inr (.inr (39 : Nat)), .inl (28 : Int), .inl f, .inl (n + (1 : Int)), .inl (0 : Int), .inl (0 : Int)] (Av1, Bv1, Yv1, Kv1, Tv1) (fun Av3 Bv3 Yv3 Kv3 Tv3 => Q Av3 Bv3 Yv3 Kv3 Tv3))))))
    refine ⟨by omega, z_meets (by omega) h1 (by omega) (fun z => ⟨by omega, fun _ => ⟨by omega, h_callEnd (by omega) h1 hf (by omega) hcu ?_ ho (by omega) hp (by omega) hq⟩, fun w => absurd rfl w⟩) (fun B2 Y2 f2 k z g1 g2 h2 s2 => ⟨by omega, fun w => absurd w (by omega), fun _ => ⟨by omega, z_wait h2 (by omega) (td_28 hf) (fun B3 h3 s3 => ?_)⟩⟩)⟩
    · rw [show cur - (n + 1) + 1 = cur - n by omega]
      exact hw
    · have g3 := g2 (by omega)
      exact hq.2.1 _ _ _ _ _ _ _ _ _ _ _ _ _ _ _ _ _ h3 (WT_c2 (tt_28 (by omega)) hw (by omega) (by omega)) (by first | omega | (simp only [PD_1, SW_1, PD_2, SW_2, PD_3, SW_3, PD_4, SW_4, PD_5, SW_5, PD_6, SW_6, PD_7, SW_7, PD_8, SW_8, PD_9, SW_9, PD_10, SW_10, PD_11, SW_11, PD_12, SW_12, PD_13, SW_13, PD_14, SW_14, PD_15, SW_15, PD_16, SW_16, PD_17, SW_17, PD_18, SW_18, PD_19, SW_19, PD_20, SW_20, PD_21, SW_21, PD_22, SW_22, PD_23, SW_23, PD_24, SW_24, PD_25, SW_25, PD_26, SW_26, PD_27, SW_27, PD_28, SW_28, PD_29, SW_29]; omega)) (by omega) (by first | omega | (simp only [PD_1, SW_1, PD_2, SW_2, PD_3, SW_3, PD_4, SW_4, PD_5, SW_5, PD_6, SW_6, PD_7, SW_7, PD_8, SW_8, PD_9, SW_9, PD_10, SW_10, PD_11, SW_11, PD_12, SW_12, PD_13, SW_13, PD_14, SW_14, PD_15, SW_15, PD_16, SW_16, PD_17, SW_17, PD_18, SW_18, PD_19, SW_19, PD_20, SW_20, PD_21, SW_21, PD_22, SW_22, PD_23, SW_23, PD_24, SW_24, PD_25, SW_25, PD_26, SW_26, PD_27, SW_27, PD_28, SW_28, PD_29, SW_29]; omega))
  refine pzV_of 22 [(38, [3])] [] ?_
  show ((-2147483648 ≤ (B 39 42) ∧ (B 39 42) < 2147483648) ∧ ((B 39 42) = (0 : Int) → pq d 45 38 [some (.inr (.inr (39 : Nat))), some (.inl f), some (.inl n), none] [] (A, B, Y, K, T) (qV Q)) ∧ ((B 39 42) ≠ (0 : Int) → ((0 ≤ f ∧ f < (6 : Int)) ∧ ((-2147483648 ≤ n ∧ n < 2147483648) ∧ (-2147483648 ≤ (B 55 (f).toNat) ∧ (B 55 (f).toNat) < 2147483648) ∧ ((B 55 (f).toNat) ≤ n → pq d 45 38 [some (.inr (.inr (39 : Nat))), some (.inl f), some (.inl n), none] [] (A, B, Y, K, T) (qV Q)) ∧ (n < (B 55 (f).toNat) → ((0 ≤ (((12 : Int) * f) + n) ∧ (((12 : Int) * f) + n) < (72 : Int)) ∧ ((-2147483648 ≤ (B 57 ((((12 : Int) * f) + n)).toNat) ∧ (B 57 ((((12 : Int) * f) + n)).toNat) < 2147483648) ∧ ((B 57 ((((12 : Int) * f) + n)).toNat) ≠ (0 : Int) → pq d 45 38 [some (.inr (.inr (39 : Nat))), some (.inl f), some (.inl n), none] [] (A, B, Y, K, T) (qV Q)) ∧ ((B 57 ((((12 : Int) * f) + n)).toNat) = (0 : Int) → (0 < d ∧ pzV (d - 1) 12 [.inr (.inr (39 : Nat)), .inl (8 : Int), .inl p] (A, B, Y, K, T) (fun Av1 Bv1 Yv1 Kv1 Tv1 => pq d 45 38 [some (.inr (.inr (39 : Nat))), some (.inl f), some (.inl n), none] [] (Av1, Bv1, Yv1, Kv1, Tv1) (qV Q)))))))))))
  exact ⟨by omega, fun _ => j38 B h, fun _ => ⟨by omega, by omega, by omega, fun _ => j38 B h, fun z => ⟨by omega, by omega, fun _ => j38 B h, fun _ => ⟨by omega, z_forbid h (by omega) hpi (fun B1 h1 s1 => j38 B1 h1)⟩⟩⟩⟩
set_option maxRecDepth 100000 in
set_option maxHeartbeats 4000000 in
theorem h_call (hd : 12 ≤ d) (h : PZ B0 B Y st st cur op fr fr N F tp ow tk sc tm E ht rg bk) (htk : tk = 3) (hw : WT st (cur + 1) op) (hn : (st.length : Int) ≤ 20 * op + 12) (ho : 0 ≤ op ∧ op ≤ 10) (hp : N + PD st ≤ 3 * fr + 2) (hm : 64 * (3001 - fr) + SW st + 1 ≤ m) (hE : 0 ≤ E F.toNat) (hq : HQ B0 m A K T Q) : pzV d 44 [.inr (.inr 39)] (A, B, Y, K, T) Q := by
  obtain ⟨p1, p2, p3, p4, p5, p6, p7, p8⟩ := PZ_tk h
  have e := PZ_eq h
  have wl := WT_len hw
  have pd0 := PD_0 st
  obtain ⟨-, hK, -, hT, -, -, -, hG, -⟩ := id h
  have g0 := hG.1
  refine pzV_of 33 [] [] ?_
  show (0 < d ∧ pzI (d - 1) 14 [.inr (.inr (39 : Nat)), .inr (.inr (52 : Nat)), .inr (.inr (53 : Nat)), .inl (B 39 17)] (A, B, Y, K, T) (fun nv1 Av1 Bv1 Yv1 Kv1 Tv1 => ((-2147483648 ≤ nv1 ∧ nv1 < 2147483648) ∧ ((0 : Int) ≤ nv1 → (0 < d ∧ pzV (d - 1) 5 [.inr (.inr (39 : Nat))] (Av1, Bv1, Yv1, Kv1, Tv1) (fun Av2 Bv2 Yv2 Kv2 Tv2 => (0 < d ∧ pzV (d - 1) 16 [.inr (.inr (39 : Nat))] (Av2, Bv2, Yv2, Kv2, Tv2) (fun Av3 Bv3 Yv3 Kv3 Tv3 => ((-2147483648 ≤ (Bv3 39 10) ∧ (Bv3 39 10) < 2147483648) ∧ ((Bv3 39 10) ≤ (0 : Int) → (0 < d ∧ pzV (d - 1) 5 [.inr (.inr (39 : Nat))] (Av3, Bv3, Yv3, Kv3, Tv3) (fun Av4 Bv4 Yv4 Kv4 Tv4 => ((-2147483648 ≤ (Bv4 39 6) ∧ (Bv4 39 6) < 2147483648) ∧ (-2147483648 ≤ (41 : Int) ∧ (41 : Int) < 2147483648) ∧ ((Bv4 39 6) = (41 : Int) → (0 < d ∧ pzV (d - 1) 46 [.inr (.inr (39 : Nat)), .inl nv1, .inl (0 : Int)] (Av4, Bv4, Yv4, Kv4, Tv4) (fun Av5 Bv5 Yv5 Kv5 Tv5 => Q Av5 Bv5 Yv5 Kv5 Tv5))) ∧ ((Bv4 39 6) ≠ (41 : Int) → (0 < d ∧ pzV (d - 1) 20 [.inr (.inr (39 : Nat)), .inl (28 : Int), .inl nv1, .inl (0 : Int), .inl (0 : Int), .inl (0 : Int)] (Av4, Bv4, Yv4, Kv4, Tv4) (fun Av6 Bv6 Yv6 Kv6 Tv6 => Q Av6 Bv6 Yv6 Kv6 Tv6))))))) ∧ ((0 : Int) < (Bv3 39 10) → Q Av3 Bv3 Yv3 Kv3 Tv3))))))) ∧ (nv1 < (0 : Int) → (0 < d ∧ pzV (d - 1) 9 [.inr (.inr (39 : Nat)), .inl (2 : Int)] (Av1, Bv1, Yv1, Kv1, Tv1) (fun Av7 Bv7 Yv7 Kv7 Tv7 => Q Av7 Bv7 Yv7 Kv7 Tv7))))))
  refine ⟨by omega, m_find_52 (by omega) hK hT g0.1 g0.2 (fun k hk => hG.2.1 k (by omega)) (fun r r1 r2 => ⟨by omega, fun r3 => ⟨by omega, z_next (by omega) h (fun B1 Y1 f1 k1 a1 a2 h1 s1 => ⟨by omega, z_deeper (by omega) h1 ho (fun B2 q2 => ?_) (fun B2 o2 h2 s2 => ?_)⟩)⟩, fun r3 => ⟨by omega, z_fail h (by omega) (by omega) (fun B1 q1 _ => hq.1 _ _ _ _ q1)⟩⟩)⟩
  · have g := PF_eq q2
    exact ⟨by omega, fun z => absurd z (by omega), fun _ => hq.1 _ _ _ _ q2⟩
  · have e2 := PZ_eq h2
    have a3 := a2 (by omega)
    refine ⟨by omega, fun _ => ⟨by omega, z_next (by omega) h2 (fun B3 Y3 f3 k3 a4 a5 h3 s3 => ?_)⟩, fun z => absurd z (by omega)⟩
    have e3 := PZ_eq h3
    obtain ⟨p31, p32, p33, -⟩ := PZ_tk h3
    refine ⟨by omega, by omega, fun z => ⟨by omega, h_callEnd (by omega) h3 (by omega) (by omega) (by omega) ?_ (by omega) (by omega) (by omega) (by omega) hq⟩, fun z => ⟨by omega, z_wait h3 (by omega) (td_28 (by omega)) (fun B4 h4 s4 => ?_)⟩⟩
    · rw [show cur - 0 + 1 = cur + 1 by omega, show op + 1 - 1 = op by omega]
      exact hw
    · exact hq.2.1 _ _ _ _ _ _ _ _ _ _ _ _ _ _ _ _ _ h4 (WT_c2 (tt_28 (by omega)) hw (by omega) (by omega)) (by first | omega | (simp only [PD_1, SW_1, PD_2, SW_2, PD_3, SW_3, PD_4, SW_4, PD_5, SW_5, PD_6, SW_6, PD_7, SW_7, PD_8, SW_8, PD_9, SW_9, PD_10, SW_10, PD_11, SW_11, PD_12, SW_12, PD_13, SW_13, PD_14, SW_14, PD_15, SW_15, PD_16, SW_16, PD_17, SW_17, PD_18, SW_18, PD_19, SW_19, PD_20, SW_20, PD_21, SW_21, PD_22, SW_22, PD_23, SW_23, PD_24, SW_24, PD_25, SW_25, PD_26, SW_26, PD_27, SW_27, PD_28, SW_28, PD_29, SW_29]; omega)) (by omega) (by first | omega | (simp only [PD_1, SW_1, PD_2, SW_2, PD_3, SW_3, PD_4, SW_4, PD_5, SW_5, PD_6, SW_6, PD_7, SW_7, PD_8, SW_8, PD_9, SW_9, PD_10, SW_10, PD_11, SW_11, PD_12, SW_12, PD_13, SW_13, PD_14, SW_14, PD_15, SW_15, PD_16, SW_16, PD_17, SW_17, PD_18, SW_18, PD_19, SW_19, PD_20, SW_20, PD_21, SW_21, PD_22, SW_22, PD_23, SW_23, PD_24, SW_24, PD_25, SW_25, PD_26, SW_26, PD_27, SW_27, PD_28, SW_28, PD_29, SW_29]; omega))
set_option maxRecDepth 100000 in
set_option maxHeartbeats 4000000 in
theorem h_called (hd : 14 ≤ d) (h : PZ B0 B Y st st cur op fr fr N F tp ow tk sc tm E ht rg bk) (htk : tk = 3) (hw : WT st (cur + 1) op) (hn : (st.length : Int) ≤ 20 * op + 12) (ho : 0 ≤ op ∧ op ≤ 10) (hp : N + PD st ≤ 3 * fr + 2) (hm : 64 * (3001 - fr) + SW st + 1 ≤ m) (hE : 0 ≤ E F.toNat) (hq : HQ B0 m A K T Q) : pzV d 43 [.inr (.inr 39)] (A, B, Y, K, T) Q := by
  obtain ⟨p1, p2, p3, p4, p5, p6, p7, p8⟩ := PZ_tk h
  have e := PZ_eq h
  have wl := WT_len hw
  have pd0 := PD_0 st
  obtain ⟨-, hK, -, ⟨t1, t2, t3, t4, t5, t6⟩, -, hD, hO, -⟩ := id h
  have j109 : ∀ B1 Y1 f1 k1 r, fr < f1 → (100 ≤ r ∧ r < 112 ∨ (0 ≤ r ∧ r < tp)) → PZ B0 B1 Y1 st st cur op f1 f1 N F tp ow k1 sc tm E ht rg bk → pq d 43 76 [some (.inr (.inr 39)), none, some (.inl r)] [] (A, B1, Y1, K, T) (qV Q) := by
    intro B1 Y1 f1 k1 r a1 hr h1
    obtain ⟨p11, p12, p13, p14, p15, p16, p17, p18⟩ := PZ_tk h1
    have e1 := PZ_eq h1
    have at1 : f1 ≤ (B1 39 5) := e1.2.2.2.2.2.2.2.2.2.2.1
    have fin : ∀ B2 ht2 rg2 bk2 s, PZ B0 B2 Y1 st st (cur + 1) op f1 f1 (N + 1) F tp ow k1 sc tm E ht2 rg2 bk2 → (s = 0 ∨ s = 1) → Q A (zu B2 39 42 s) Y1 K T := by
      intro B2 ht2 rg2 bk2 s h2 hs
      exact hq.2.1 _ _ _ _ _ _ _ _ _ _ _ _ _ _ _ _ _ (PZ_sec h2 hs) hw (by first | omega | (simp only [PD_1, SW_1, PD_2, SW_2, PD_3, SW_3, PD_4, SW_4, PD_5, SW_5, PD_6, SW_6, PD_7, SW_7, PD_8, SW_8, PD_9, SW_9, PD_10, SW_10, PD_11, SW_11, PD_12, SW_12, PD_13, SW_13, PD_14, SW_14, PD_15, SW_15, PD_16, SW_16, PD_17, SW_17, PD_18, SW_18, PD_19, SW_19, PD_20, SW_20, PD_21, SW_21, PD_22, SW_22, PD_23, SW_23, PD_24, SW_24, PD_25, SW_25, PD_26, SW_26, PD_27, SW_27, PD_28, SW_28, PD_29, SW_29]; omega)) (by omega) (by first | omega | (simp only [PD_1, SW_1, PD_2, SW_2, PD_3, SW_3, PD_4, SW_4, PD_5, SW_5, PD_6, SW_6, PD_7, SW_7, PD_8, SW_8, PD_9, SW_9, PD_10, SW_10, PD_11, SW_11, PD_12, SW_12, PD_13, SW_13, PD_14, SW_14, PD_15, SW_15, PD_16, SW_16, PD_17, SW_17, PD_18, SW_18, PD_19, SW_19, PD_20, SW_20, PD_21, SW_21, PD_22, SW_22, PD_23, SW_23, PD_24, SW_24, PD_25, SW_25, PD_26, SW_26, PD_27, SW_27, PD_28, SW_28, PD_29, SW_29]; omega))
    have j111 : ∀ B2 ht2 rg2 bk2, PZ B0 B2 Y1 st st (cur + 1) op f1 f1 (N + 1) F tp ow k1 sc tm E ht2 rg2 bk2 → pq d 43 111 [some (.inr (.inr 39)), none, some (.inl r)] [] (A, B2, Y1, K, T) (qV Q) := by
      intro B2 ht2 rg2 bk2 h2
      have e2 := PZ_eq h2
      obtain ⟨-, -, -, -, -, hD2, hO2, -⟩ := id h2
      refine pq_of 13 [] [] ?_
      show ((-2147483648 ≤ r ∧ r < 2147483648) ∧ (-2147483648 ≤ (99 : Int) ∧ (99 : Int) < 2147483648) ∧ (r ≤ (99 : Int) → ((0 ≤ r ∧ r < (40 : Int)) ∧ (((B2 47 (r).toNat) = 0 ∨ (B2 47 (r).toNat) = 1) ∧ Q A (zu B2 39 42 (B2 47 (r).toNat)) Y1 K T))) ∧ ((99 : Int) < r → ((0 ≤ (r - (100 : Int)) ∧ (r - (100 : Int)) < (12 : Int)) ∧ (((B2 48 ((r - (100 : Int))).toNat) = 0 ∨ (B2 48 ((r - (100 : Int))).toNat) = 1) ∧ Q A (zu B2 39 42 (B2 48 ((r - (100 : Int))).toNat)) Y1 K T))))
      exact ⟨by omega, by omega, fun z => ⟨by omega, hD2.2.2.2 _, fin B2 ht2 rg2 bk2 _ h2 (hD2.2.2.2 _)⟩, fun z => ⟨by omega, hO2.2.2 _, fin B2 ht2 rg2 bk2 _ h2 (hO2.2.2 _)⟩⟩
    refine pq_of 15 [(111, [])] [] ?_
    show ((-2147483648 ≤ r ∧ r < 2147483648) ∧ (-2147483648 ≤ (99 : Int) ∧ (99 : Int) < 2147483648) ∧ (r ≤ (99 : Int) → ((-2147483648 ≤ r ∧ r < 2147483648) ∧ (-2147483648 ≤ (99 : Int) ∧ (99 : Int) < 2147483648) ∧ (r ≤ (99 : Int) → ((0 ≤ r ∧ r < (40 : Int)) ∧ (0 < d ∧ pzV (d - 1) 15 [.inr (.inr (39 : Nat)), .inl (2 : Int), .inl (B1 46 (r).toNat), .inl (0 : Int)] (A, B1, Y1, K, T) (fun Av1 Bv1 Yv1 Kv1 Tv1 => pq d 43 111 [some (.inr (.inr (39 : Nat))), none, some (.inl r)] [] (Av1, Bv1, Yv1, Kv1, Tv1) (qV Q))))) ∧ ((99 : Int) < r → (0 < d ∧ pzV (d - 1) 15 [.inr (.inr (39 : Nat)), .inl (2 : Int), .inl (r - (100 : Int)), .inl (0 : Int)] (A, B1, Y1, K, T) (fun Av2 Bv2 Yv2 Kv2 Tv2 => pq d 43 111 [some (.inr (.inr (39 : Nat))), none, some (.inl r)] [] (Av2, Bv2, Yv2, Kv2, Tv2) (qV Q)))))) ∧ ((99 : Int) < r → ((-2147483648 ≤ r ∧ r < 2147483648) ∧ (-2147483648 ≤ (99 : Int) ∧ (99 : Int) < 2147483648) ∧ (r ≤ (99 : Int) → ((0 ≤ r ∧ r < (40 : Int)) ∧ (0 < d ∧ pzV (d - 1) 15 [.inr (.inr (39 : Nat)), .inl (3 : Int), .inl (B1 46 (r).toNat), .inl (0 : Int)] (A, B1, Y1, K, T) (fun Av3 Bv3 Yv3 Kv3 Tv3 => pq d 43 111 [some (.inr (.inr (39 : Nat))), none, some (.inl r)] [] (Av3, Bv3, Yv3, Kv3, Tv3) (qV Q))))) ∧ ((99 : Int) < r → (0 < d ∧ pzV (d - 1) 15 [.inr (.inr (39 : Nat)), .inl (3 : Int), .inl (r - (100 : Int)), .inl (0 : Int)] (A, B1, Y1, K, T) (fun Av4 Bv4 Yv4 Kv4 Tv4 => pq d 43 111 [some (.inr (.inr (39 : Nat))), none, some (.inl r)] [] (Av4, Bv4, Yv4, Kv4, Tv4) (qV Q)))))))
    refine ⟨by omega, by omega, fun z => ⟨by omega, by omega, fun _ => ⟨by omega, ?_⟩, fun w => absurd w (by omega)⟩, fun z => ⟨by omega, by omega, fun w => absurd w (by omega), fun _ => ?_⟩⟩
    · obtain ⟨-, -, -, -, -, hD1, -⟩ := id h1
      have hc := hD1.2.2.1 r.toNat (by omega)
      have hc2 := hD1.2.1
      refine ⟨by omega, z_say (y := cur + 1) (fc' := f1) h1 (by omega) (Int.le_refl _) at1 (by omega) (by omega) (Or.inr (Or.inl ⟨rfl, by omega, rfl⟩)) (fun B2 ht2 rg2 bk2 h2 s2 l2 => j111 B2 ht2 rg2 bk2 h2)⟩
    · refine ⟨by omega, z_say (y := cur + 1) (fc' := f1) h1 (by omega) (Int.le_refl _) at1 (by omega) (by omega) (Or.inr (Or.inr (Or.inl ⟨rfl, by omega, rfl⟩))) (fun B2 ht2 rg2 bk2 h2 s2 l2 => j111 B2 ht2 rg2 bk2 h2)⟩
  have j41 : ∀ c r, (0 ≤ c ∧ c < 65536) → ((100 ≤ r ∧ r < 112 ∧ c ≠ 91) ∨ (0 ≤ r ∧ r < tp)) → pq d 43 41 [some (.inr (.inr 39)), some (.inl c), some (.inl r)] [] (A, B, Y, K, T) (qV Q) := by
    intro c r hc hr
    refine pq_of 19 [(76, [1])] [] ?_
    show ((-2147483648 ≤ (B 39 10) ∧ (B 39 10) < 2147483648) ∧ ((B 39 10) ≤ (0 : Int) → (0 < d ∧ pzV (d - 1) 5 [.inr (.inr (39 : Nat))] (A, B, Y, K, T) (fun Av1 Bv1 Yv1 Kv1 Tv1 => ((-2147483648 ≤ c ∧ c < 2147483648) ∧ (-2147483648 ≤ (91 : Int) ∧ (91 : Int) < 2147483648) ∧ (c ≠ (91 : Int) → pq d 43 76 [some (.inr (.inr (39 : Nat))), none, some (.inl r)] [] (Av1, Bv1, Yv1, Kv1, Tv1) (qV Q)) ∧ (c = (91 : Int) → (0 < d ∧ pzV (d - 1) 20 [.inr (.inr (39 : Nat)), .inl (27 : Int), .inl r, .inl (0 : Int), .inl (0 : Int), .inl (0 : Int)] (Av1, Bv1, Yv1, Kv1, Tv1) (fun Av2 Bv2 Yv2 Kv2 Tv2 => (0 < d ∧ pzV (d - 1) 21 [.inr (.inr (39 : Nat)), .inl (15 : Int)] (Av2, Bv2, Yv2, Kv2, Tv2) (fun Av3 Bv3 Yv3 Kv3 Tv3 => Q Av3 Bv3 Yv3 Kv3 Tv3))))))))) ∧ ((0 : Int) < (B 39 10) → Q A B Y K T))
    refine ⟨by omega, fun _ => ⟨by omega, z_next (by omega) h (fun B1 Y1 f1 k1 a1 a2 h1 s1 => ?_)⟩, fun z => absurd z (by omega)⟩
    have a3 := a2 (by omega)
    refine ⟨by omega, by omega, fun z => j109 B1 Y1 f1 k1 r a3 (by omega) h1, fun z => ⟨by omega, z_wait h1 (by omega) (td_27 (by omega)) (fun B2 h2 s2 => ⟨by omega, z_plain (by omega) h2 (by simp only [List.length_cons, true_and, and_true]; omega) (td_0 (by omega)) (fun B3 h3 s3 => ?_)⟩)⟩⟩
    exact hq.2.1 _ _ _ _ _ _ _ _ _ _ _ _ _ _ _ _ _ h3 (WT_c2 (tt_15 (by simp only [List.length_cons, true_and, and_true]; omega)) (WT_c2 (tt_27 (by omega)) hw (by omega) (by omega)) rfl rfl) (by first | omega | (simp only [PD_1, SW_1, PD_2, SW_2, PD_3, SW_3, PD_4, SW_4, PD_5, SW_5, PD_6, SW_6, PD_7, SW_7, PD_8, SW_8, PD_9, SW_9, PD_10, SW_10, PD_11, SW_11, PD_12, SW_12, PD_13, SW_13, PD_14, SW_14, PD_15, SW_15, PD_16, SW_16, PD_17, SW_17, PD_18, SW_18, PD_19, SW_19, PD_20, SW_20, PD_21, SW_21, PD_22, SW_22, PD_23, SW_23, PD_24, SW_24, PD_25, SW_25, PD_26, SW_26, PD_27, SW_27, PD_28, SW_28, PD_29, SW_29]; omega)) (by omega) (by first | omega | (simp only [PD_1, SW_1, PD_2, SW_2, PD_3, SW_3, PD_4, SW_4, PD_5, SW_5, PD_6, SW_6, PD_7, SW_7, PD_8, SW_8, PD_9, SW_9, PD_10, SW_10, PD_11, SW_11, PD_12, SW_12, PD_13, SW_13, PD_14, SW_14, PD_15, SW_15, PD_16, SW_16, PD_17, SW_17, PD_18, SW_18, PD_19, SW_19, PD_20, SW_20, PD_21, SW_21, PD_22, SW_22, PD_23, SW_23, PD_24, SW_24, PD_25, SW_25, PD_26, SW_26, PD_27, SW_27, PD_28, SW_28, PD_29, SW_29]; omega))
  have j28 : ∀ c b, (0 ≤ c ∧ c < 65536) → (b = 0 ∧ c ≠ 91 ∨ b = 1) → pq d 43 28 [some (.inr (.inr 39)), some (.inl c), none] [.inl b, .inr (.inr 39)] (A, B, Y, K, T) (qV Q) := by
    intro c b hc hb
    refine pq_of 7 [(41, [])] [] ?_
    show (0 < d ∧ pzI (d - 1) 33 [.inr (.inr (39 : Nat)), .inl b] (A, B, Y, K, T) (fun nv1 Av1 Bv1 Yv1 Kv1 Tv1 => ((-2147483648 ≤ nv1 ∧ nv1 < 2147483648) ∧ ((0 : Int) ≤ nv1 → pq d 43 41 [some (.inr (.inr (39 : Nat))), some (.inl c), some (.inl nv1)] [] (Av1, Bv1, Yv1, Kv1, Tv1) (qV Q)) ∧ (nv1 < (0 : Int) → (0 < d ∧ pzV (d - 1) 9 [.inr (.inr (39 : Nat)), .inl (2 : Int)] (Av1, Bv1, Yv1, Kv1, Tv1) (fun Av2 Bv2 Yv2 Kv2 Tv2 => pq d 43 41 [some (.inr (.inr (39 : Nat))), some (.inl c), some (.inl nv1)] [] (Av2, Bv2, Yv2, Kv2, Tv2) (qV Q)))))))
    refine ⟨by omega, h_named (by omega) h (by omega) (fun r hr => ⟨by omega, fun z => j41 c r hc (by omega), fun z => ⟨by omega, z_fail h (by omega) (by omega) (fun B1 q1 _ => ?_)⟩⟩)⟩
    refine pq_of 4 [(49, [])] [] ?_
    show ((-2147483648 ≤ (B1 39 10) ∧ (B1 39 10) < 2147483648) ∧ ((B1 39 10) ≤ (0 : Int) → pq d 43 49 [some (.inr (.inr (39 : Nat))), some (.inl c), some (.inl r)] [] (A, B1, Y, K, T) (qV Q)) ∧ ((0 : Int) < (B1 39 10) → Q A B1 Y K T))
    have g := PF_eq q1
    exact ⟨by omega, fun z => absurd z (by omega), fun _ => hq.1 _ _ _ _ q1⟩
  refine pzV_of 12 [(28, [])] [] ?_
  show (0 < d ∧ pzI (d - 1) 34 [.inr (.inr (39 : Nat))] (A, B, Y, K, T) (fun nv1 Av1 Bv1 Yv1 Kv1 Tv1 => ((-2147483648 ≤ nv1 ∧ nv1 < 2147483648) ∧ (-2147483648 ≤ (40 : Int) ∧ (40 : Int) < 2147483648) ∧ (nv1 ≠ (40 : Int) → ((-2147483648 ≤ nv1 ∧ nv1 < 2147483648) ∧ (-2147483648 ≤ (91 : Int) ∧ (91 : Int) < 2147483648) ∧ (nv1 ≠ (91 : Int) → pq d 43 28 [some (.inr (.inr (39 : Nat))), some (.inl nv1), none] [.inl (0 : Int), .inr (.inr (39 : Nat))] (Av1, Bv1, Yv1, Kv1, Tv1) (qV Q)) ∧ (nv1 = (91 : Int) → pq d 43 28 [some (.inr (.inr (39 : Nat))), some (.inl nv1), none] [.inl (1 : Int), .inr (.inr (39 : Nat))] (Av1, Bv1, Yv1, Kv1, Tv1) (qV Q)))) ∧ (nv1 = (40 : Int) → (0 < d ∧ pzV (d - 1) 44 [.inr (.inr (39 : Nat))] (Av1, Bv1, Yv1, Kv1, Tv1) (fun Av2 Bv2 Yv2 Kv2 Tv2 => Q Av2 Bv2 Yv2 Kv2 Tv2))))))
  exact ⟨by omega, m_ahead (by omega) hK (by omega) t4 (fun c hc => ⟨by omega, by omega, fun z => ⟨by omega, by omega, fun w => j28 c 0 hc (Or.inl ⟨rfl, w⟩), fun w => j28 c 1 hc (Or.inr rfl)⟩, fun z => ⟨by omega, h_call (by omega) h htk hw hn ho hp hm hE hq⟩⟩)⟩
set_option maxRecDepth 100000 in
set_option maxHeartbeats 4000000 in
theorem h_single (hd : 16 ≤ d) (h : PZ B0 B Y st st cur op fr fr N F tp ow tk sc tm E ht rg bk) (hw : WT st (cur + 1) op) (hn : (st.length : Int) ≤ 20 * op + 12) (ho : 0 ≤ op ∧ op ≤ 10) (hp : N + PD st ≤ 3 * fr + 2) (hm : 64 * (3001 - fr) + SW st + 1 ≤ m) (hE : 0 ≤ E F.toNat) (hq : HQ B0 m A K T Q) : pzV d 42 [.inr (.inr 39)] (A, B, Y, K, T) Q := by
  obtain ⟨p1, p2, p3, p4, p5, p6, p7, p8⟩ := PZ_tk h
  have e := PZ_eq h
  have wl := WT_len hw
  have pd0 := PD_0 st
  have j29 : (tk = 45 ∨ tk = 126 ∨ tk = 33 ∨ tk = 40) → pq d 42 29 [some (.inr (.inr 39)), some (.inl (B 39 6))] [] (A, B, Y, K, T) (qV Q) := by
    intro ht
    refine pq_of 27 [] [] ?_
    show (0 < d ∧ pzV (d - 1) 16 [.inr (.inr (39 : Nat))] (A, B, Y, K, T) (fun Av1 Bv1 Yv1 Kv1 Tv1 => ((-2147483648 ≤ (Bv1 39 10) ∧ (Bv1 39 10) < 2147483648) ∧ ((Bv1 39 10) ≤ (0 : Int) → (0 < d ∧ pzV (d - 1) 5 [.inr (.inr (39 : Nat))] (Av1, Bv1, Yv1, Kv1, Tv1) (fun Av2 Bv2 Yv2 Kv2 Tv2 => ((-2147483648 ≤ (B 39 6) ∧ (B 39 6) < 2147483648) ∧ (-2147483648 ≤ (40 : Int) ∧ (40 : Int) < 2147483648) ∧ ((B 39 6) ≠ (40 : Int) → (0 < d ∧ pzV (d - 1) 20 [.inr (.inr (39 : Nat)), .inl (25 : Int), .inl (B 39 6), .inl (0 : Int), .inl (0 : Int), .inl (0 : Int)] (Av2, Bv2, Yv2, Kv2, Tv2) (fun Av3 Bv3 Yv3 Kv3 Tv3 => ((-2147483648 ≤ (B 39 6) ∧ (B 39 6) < 2147483648) ∧ (-2147483648 ≤ (40 : Int) ∧ (40 : Int) < 2147483648) ∧ ((B 39 6) ≠ (40 : Int) → (0 < d ∧ pzV (d - 1) 21 [.inr (.inr (39 : Nat)), .inl (24 : Int)] (Av3, Bv3, Yv3, Kv3, Tv3) (fun Av4 Bv4 Yv4 Kv4 Tv4 => Q Av4 Bv4 Yv4 Kv4 Tv4))) ∧ ((B 39 6) = (40 : Int) → (0 < d ∧ pzV (d - 1) 21 [.inr (.inr (39 : Nat)), .inl (17 : Int)] (Av3, Bv3, Yv3, Kv3, Tv3) (fun Av5 Bv5 Yv5 Kv5 Tv5 => Q Av5 Bv5 Yv5 Kv5 Tv5))))))) ∧ ((B 39 6) = (40 : Int) → (0 < d ∧ pzV (d - 1) 20 [.inr (.inr (39 : Nat)), .inl (26 : Int), .inl (B 39 6), .inl (0 : Int), .inl (0 : Int), .inl (0 : Int)] (Av2, Bv2, Yv2, Kv2, Tv2) (fun Av6 Bv6 Yv6 Kv6 Tv6 => ((-2147483648 ≤ (B 39 6) ∧ (B 39 6) < 2147483648) ∧ (-2147483648 ≤ (40 : Int) ∧ (40 : Int) < 2147483648) ∧ ((B 39 6) ≠ (40 : Int) → (0 < d ∧ pzV (d - 1) 21 [.inr (.inr (39 : Nat)), .inl (24 : Int)] (Av6, Bv6, Yv6, Kv6, Tv6) (fun Av7 Bv7 Yv7 Kv7 Tv7 => Q Av7 Bv7 Yv7 Kv7 Tv7))) ∧ ((B 39 6) = (40 : Int) → (0 < d ∧ pzV (d - 1) 21 [.inr (.inr (39 : Nat)), .inl (17 : Int)] (Av6, Bv6, Yv6, Kv6, Tv6) (fun Av8 Bv8 Yv8 Kv8 Tv8 => Q Av8 Bv8 Yv8 Kv8 Tv8))))))))))) ∧ ((0 : Int) < (Bv1 39 10) → Q Av1 Bv1 Yv1 Kv1 Tv1))))
    refine ⟨by omega, z_deeper (by omega) h ho (fun B1 f1 => ?_) (fun B1 o1 h1 s1 => ?_)⟩
    · have g := PF_eq f1
      exact ⟨by omega, fun z => absurd z (by omega), fun _ => hq.1 _ _ _ _ f1⟩
    · have e1 := PZ_eq h1
      refine ⟨by omega, fun _ => ⟨by omega, z_next (by omega) h1 (fun B2 Y2 f k g1 g2 h2 s2 => ?_)⟩, fun z => absurd z (by omega)⟩
      have g3 := g2 (by omega)
      refine ⟨by omega, by omega, fun z => ⟨by omega, z_wait h2 (by omega) (td_25 (by omega)) (fun B3 h3 s3 => ⟨by omega, by omega, fun _ => ⟨by omega, z_plain (by omega) h3 (by simp only [List.length_cons, true_and, and_true]; omega) (td_0 (by omega)) (fun B4 h4 s4 => ?_)⟩, fun w => absurd w z⟩)⟩, fun z => ⟨by omega, z_wait h2 (by omega) (td_0 (by omega)) (fun B3 h3 s3 => ⟨by omega, by omega, fun w => absurd z w, fun _ => ⟨by omega, z_plain (by omega) h3 (by simp only [List.length_cons, true_and, and_true]; omega) (td_0 (by omega)) (fun B4 h4 s4 => ?_)⟩⟩)⟩⟩
      · exact hq.2.1 _ _ _ _ _ _ _ _ _ _ _ _ _ _ _ _ _ h4 (WT_c2 (tt_24 (by simp only [List.length_cons, true_and, and_true]; omega)) (WT_c2 (tt_25 (by omega)) hw (by omega) (by omega)) rfl rfl) (by first | omega | (simp only [PD_1, SW_1, PD_2, SW_2, PD_3, SW_3, PD_4, SW_4, PD_5, SW_5, PD_6, SW_6, PD_7, SW_7, PD_8, SW_8, PD_9, SW_9, PD_10, SW_10, PD_11, SW_11, PD_12, SW_12, PD_13, SW_13, PD_14, SW_14, PD_15, SW_15, PD_16, SW_16, PD_17, SW_17, PD_18, SW_18, PD_19, SW_19, PD_20, SW_20, PD_21, SW_21, PD_22, SW_22, PD_23, SW_23, PD_24, SW_24, PD_25, SW_25, PD_26, SW_26, PD_27, SW_27, PD_28, SW_28, PD_29, SW_29]; omega)) (by omega) (by first | omega | (simp only [PD_1, SW_1, PD_2, SW_2, PD_3, SW_3, PD_4, SW_4, PD_5, SW_5, PD_6, SW_6, PD_7, SW_7, PD_8, SW_8, PD_9, SW_9, PD_10, SW_10, PD_11, SW_11, PD_12, SW_12, PD_13, SW_13, PD_14, SW_14, PD_15, SW_15, PD_16, SW_16, PD_17, SW_17, PD_18, SW_18, PD_19, SW_19, PD_20, SW_20, PD_21, SW_21, PD_22, SW_22, PD_23, SW_23, PD_24, SW_24, PD_25, SW_25, PD_26, SW_26, PD_27, SW_27, PD_28, SW_28, PD_29, SW_29]; omega))
      · exact hq.2.1 _ _ _ _ _ _ _ _ _ _ _ _ _ _ _ _ _ h4 (WT_c2 (tt_17 (by simp only [List.length_cons, true_and, and_true]; omega)) (WT_c2 (tt_26 (by omega)) hw (by omega) (by omega)) rfl rfl) (by first | omega | (simp only [PD_1, SW_1, PD_2, SW_2, PD_3, SW_3, PD_4, SW_4, PD_5, SW_5, PD_6, SW_6, PD_7, SW_7, PD_8, SW_8, PD_9, SW_9, PD_10, SW_10, PD_11, SW_11, PD_12, SW_12, PD_13, SW_13, PD_14, SW_14, PD_15, SW_15, PD_16, SW_16, PD_17, SW_17, PD_18, SW_18, PD_19, SW_19, PD_20, SW_20, PD_21, SW_21, PD_22, SW_22, PD_23, SW_23, PD_24, SW_24, PD_25, SW_25, PD_26, SW_26, PD_27, SW_27, PD_28, SW_28, PD_29, SW_29]; omega)) (by omega) (by first | omega | (simp only [PD_1, SW_1, PD_2, SW_2, PD_3, SW_3, PD_4, SW_4, PD_5, SW_5, PD_6, SW_6, PD_7, SW_7, PD_8, SW_8, PD_9, SW_9, PD_10, SW_10, PD_11, SW_11, PD_12, SW_12, PD_13, SW_13, PD_14, SW_14, PD_15, SW_15, PD_16, SW_16, PD_17, SW_17, PD_18, SW_18, PD_19, SW_19, PD_20, SW_20, PD_21, SW_21, PD_22, SW_22, PD_23, SW_23, PD_24, SW_24, PD_25, SW_25, PD_26, SW_26, PD_27, SW_27, PD_28, SW_28, PD_29, SW_29]; omega))
  have j86 : pq d 42 86 [some (.inr (.inr 39)), some (.inl (B 39 6))] [] (A, B, Y, K, T) (qV Q) := by
    have at0 := p2
    refine pq_of 17 [] [97] ?_
    show ((-2147483648 ≤ (B 39 6) ∧ (B 39 6) < 2147483648) ∧ (-2147483648 ≤ (2 : Int) ∧ (2 : Int) < 2147483648) ∧ ((B 39 6) ≠ (2 : Int) → ((-2147483648 ≤ (B 39 6) ∧ (B 39 6) < 2147483648) ∧ (-2147483648 ≤ (3 : Int) ∧ (3 : Int) < 2147483648) ∧ ((B 39 6) ≠ (3 : Int) → (0 < d ∧ pzV (d - 1) 9 [.inr (.inr (39 : Nat)), .inl (1 : Int)] (A, B, Y, K, T) (fun Av1 Bv1 Yv1 Kv1 Tv1 => Q Av1 Bv1 Yv1 Kv1 Tv1))) ∧ ((B 39 6) = (3 : Int) → (0 < d ∧ pzV (d - 1) 43 [.inr (.inr (39 : Nat))] (A, B, Y, K, T) (fun Av2 Bv2 Yv2 Kv2 Tv2 => Q Av2 Bv2 Yv2 Kv2 Tv2))))) ∧ ((B 39 6) = (2 : Int) → (∀ cv3 : Int, -2147483648 ≤ cv3 → cv3 < 2147483648 → (0 < d ∧ pzV (d - 1) 15 [.inr (.inr (39 : Nat)), .inl (1 : Int), .inl cv3, .inl (0 : Int)] (A, B, Y, K, T) (fun Av4 Bv4 Yv4 Kv4 Tv4 => (((0 : Int) = 0 ∨ (0 : Int) = 1) ∧ (0 < d ∧ pzV (d - 1) 5 [.inr (.inr (39 : Nat))] (Av4, (zu Bv4 39 42 (0 : Int)), Yv4, Kv4, Tv4) (fun Av5 Bv5 Yv5 Kv5 Tv5 => Q Av5 Bv5 Yv5 Kv5 Tv5))))))))
    refine ⟨by omega, by omega, fun z => ⟨by omega, by omega, fun w => ⟨by omega, z_fail h (by omega) (by omega) (fun B1 f1 _ => hq.1 _ _ _ _ f1)⟩, fun w => ⟨by omega, h_called (by omega) h (by omega) hw hn ho hp hm hE hq⟩⟩, fun z => ?_⟩
    intro c c1 c2
    have at1 := p2 (by omega)
    refine ⟨by omega, z_say (y := cur + 1) (fc' := (B 39 5)) h (by omega) (by omega) (Int.le_refl _) (by omega) (by omega) (Or.inl ⟨rfl, ⟨c1, c2⟩, rfl⟩) (fun B2 ht2 rg2 bk2 h2 s2 l2 => ⟨Or.inl rfl, by omega, z_next (by omega) (PZ_sec h2 (Or.inl rfl)) (fun B3 Y3 f3 k3 g1 g2 h3 s3 => ?_)⟩)⟩
    have g3 := g2 (by omega)
    exact hq.2.1 _ _ _ _ _ _ _ _ _ _ _ _ _ _ _ _ _ h3 hw (by first | omega | (simp only [PD_1, SW_1, PD_2, SW_2, PD_3, SW_3, PD_4, SW_4, PD_5, SW_5, PD_6, SW_6, PD_7, SW_7, PD_8, SW_8, PD_9, SW_9, PD_10, SW_10, PD_11, SW_11, PD_12, SW_12, PD_13, SW_13, PD_14, SW_14, PD_15, SW_15, PD_16, SW_16, PD_17, SW_17, PD_18, SW_18, PD_19, SW_19, PD_20, SW_20, PD_21, SW_21, PD_22, SW_22, PD_23, SW_23, PD_24, SW_24, PD_25, SW_25, PD_26, SW_26, PD_27, SW_27, PD_28, SW_28, PD_29, SW_29]; omega)) (by omega) (by first | omega | (simp only [PD_1, SW_1, PD_2, SW_2, PD_3, SW_3, PD_4, SW_4, PD_5, SW_5, PD_6, SW_6, PD_7, SW_7, PD_8, SW_8, PD_9, SW_9, PD_10, SW_10, PD_11, SW_11, PD_12, SW_12, PD_13, SW_13, PD_14, SW_14, PD_15, SW_15, PD_16, SW_16, PD_17, SW_17, PD_18, SW_18, PD_19, SW_19, PD_20, SW_20, PD_21, SW_21, PD_22, SW_22, PD_23, SW_23, PD_24, SW_24, PD_25, SW_25, PD_26, SW_26, PD_27, SW_27, PD_28, SW_28, PD_29, SW_29]; omega))
  refine pzV_of 15 [(29, []), (86, [])] [] ?_
  show ((-2147483648 ≤ (B 39 6) ∧ (B 39 6) < 2147483648) ∧ (-2147483648 ≤ (45 : Int) ∧ (45 : Int) < 2147483648) ∧ ((B 39 6) = (45 : Int) → pq d 42 29 [some (.inr (.inr (39 : Nat))), some (.inl (B 39 6))] [] (A, B, Y, K, T) (qV Q)) ∧ ((B 39 6) ≠ (45 : Int) → ((-2147483648 ≤ (B 39 6) ∧ (B 39 6) < 2147483648) ∧ (-2147483648 ≤ (126 : Int) ∧ (126 : Int) < 2147483648) ∧ ((B 39 6) = (126 : Int) → pq d 42 29 [some (.inr (.inr (39 : Nat))), some (.inl (B 39 6))] [] (A, B, Y, K, T) (qV Q)) ∧ ((B 39 6) ≠ (126 : Int) → ((-2147483648 ≤ (B 39 6) ∧ (B 39 6) < 2147483648) ∧ (-2147483648 ≤ (33 : Int) ∧ (33 : Int) < 2147483648) ∧ ((B 39 6) = (33 : Int) → pq d 42 29 [some (.inr (.inr (39 : Nat))), some (.inl (B 39 6))] [] (A, B, Y, K, T) (qV Q)) ∧ ((B 39 6) ≠ (33 : Int) → ((-2147483648 ≤ (B 39 6) ∧ (B 39 6) < 2147483648) ∧ (-2147483648 ≤ (40 : Int) ∧ (40 : Int) < 2147483648) ∧ ((B 39 6) ≠ (40 : Int) → pq d 42 86 [some (.inr (.inr (39 : Nat))), some (.inl (B 39 6))] [] (A, B, Y, K, T) (qV Q)) ∧ ((B 39 6) = (40 : Int) → pq d 42 29 [some (.inr (.inr (39 : Nat))), some (.inl (B 39 6))] [] (A, B, Y, K, T) (qV Q)))))))))
  exact ⟨by omega, by omega, fun z => j29 (by omega), fun _ => ⟨by omega, by omega, fun z => j29 (by omega), fun _ => ⟨by omega, by omega, fun z => j29 (by omega), fun _ => ⟨by omega, by omega, fun z => j86, fun z => j29 (by omega)⟩⟩⟩⟩
end EXPR
