/-! The model's parser: declarations and functions -/
section DCL
variable {d : Nat} {A B0 B Y : zF} {K : Nat} {T : zT} {st vs vs' : List zE} {cur op fr fc N F tp ow tk sc tm m on tn : Int} {E ht rg bk : Nat → Int} {Q : zF → zF → zF → Nat → zT → Prop}
theorem PZ_at (h : PZ B0 B Y st vs cur op fr fc N F tp ow tk sc tm E ht rg bk) : (B 39 8) = (B 39 5) ∧ fr ≤ (B 39 5) ∧ (B 39 5) ≤ 3000 := by
  obtain ⟨-, hK, -, ⟨t1, t2, t3, t4, t5, t6⟩, ⟨-, -, f3, -⟩, -⟩ := h
  have := hK.1
  exact ⟨t3, by omega, by omega⟩
theorem PZ_own (h : PZ B0 B Y st vs cur op fr fc N F tp ow tk sc tm E ht rg bk) (h0 : ow < 12) : PZ B0 (zu (zu (zu (zu B 50 (B 39 16).toNat (B 39 7)) 51 (B 39 16).toNat ((B 39 8) - (B 39 7))) 48 (B 39 16).toNat (B 39 42)) 39 16 ((B 39 16) + 1)) Y st vs cur op fr fc N F tp (ow + 1) tk sc tm E ht rg bk := by
  have at0 := PZ_at h
  have tk0 := PZ_tk h
  obtain ⟨a1, a2, a3, a4, ⟨f1, f2, f3, f4, f5, f6, f7, f8, f9, f10, f11⟩, a5, a6, a7, a8, a9, a10, a11⟩ := h
  obtain ⟨o1, o2, o3⟩ := a6
  have x4 := a8.2.2.2
  refine ⟨FR_tr a1 (FR_rf _), a2, a3, a4, ⟨f1, f2, f3, f4, f5, f6, by show (B 39 16) + 1 = ow + 1; omega, f8, f9, f10, f11⟩, a5, ⟨by show 0 ≤ (B 39 16) + 1 ∧ (B 39 16) + 1 ≤ 12; omega, fun k hk => ?_, fun j => ?_⟩, a7, a8, a9, a10, TD_mono a11 (Int.le_refl _) (Int.le_refl _) (Int.le_refl _) (by omega) a10.1.2.2.2 (fun _ _ => rfl) (fun _ _ _ => ⟨rfl, rfl⟩) (fun _ _ => rfl)⟩
  · have hk : (k : Int) < (B 39 16) + 1 := hk
    simp only [zu_ap]
    by_cases e : k = (B 39 16).toNat
    · simp [e]
      omega
    · simp [e]
      exact o2 k (by omega)
  · simp only [zu_ap]
    by_cases e : j = (B 39 16).toNat
    · simp [e]
      exact x4
    · simp [e]
      exact o3 j
theorem PZ_top1 (h : PZ B0 B Y st vs cur op fr fc N F tp ow tk sc tm E ht rg bk) (h0 : tp < 40) : PZ B0 (zu (zu (zu B 42 (B 39 13).toNat (B 39 7)) 43 (B 39 13).toNat ((B 39 8) - (B 39 7))) 47 (B 39 13).toNat (B 39 42)) Y st vs cur op fr fc N F tp ow tk sc tm E ht rg bk ∧ (zu (zu (zu B 42 (B 39 13).toNat (B 39 7)) 43 (B 39 13).toNat ((B 39 8) - (B 39 7))) 47 (B 39 13).toNat (B 39 42)) 42 tp.toNat = fr ∧ (zu (zu (zu B 42 (B 39 13).toNat (B 39 7)) 43 (B 39 13).toNat ((B 39 8) - (B 39 7))) 47 (B 39 13).toNat (B 39 42)) 43 tp.toNat = (B 39 5) - fr := by
  have at0 := PZ_at h
  have tk0 := PZ_tk h
  obtain ⟨a1, a2, a3, a4, ⟨f1, f2, f3, f4, f5, f6, f7, f8, f9, f10, f11⟩, a5, a6, a7, a8, a9, a10, a11⟩ := h
  obtain ⟨o1, o2, o3, o4⟩ := a5
  have x4 := a8.2.2.2
  have e42 : ∀ k : Nat, (zu (zu (zu B 42 (B 39 13).toNat (B 39 7)) 43 (B 39 13).toNat ((B 39 8) - (B 39 7))) 47 (B 39 13).toNat (B 39 42)) 42 k = if k = (B 39 13).toNat then (B 39 7) else (B 42) k := fun k => by simp [zu_ap]
  have e43 : ∀ k : Nat, (zu (zu (zu B 42 (B 39 13).toNat (B 39 7)) 43 (B 39 13).toNat ((B 39 8) - (B 39 7))) 47 (B 39 13).toNat (B 39 42)) 43 k = if k = (B 39 13).toNat then (B 39 8) - (B 39 7) else (B 43) k := fun k => by simp [zu_ap]
  refine ⟨⟨FR_tr a1 (FR_rf _), a2, a3, a4, ⟨f1, f2, f3, f4, f5, f6, f7, f8, f9, f10, f11⟩, ⟨o1, o2, fun k hk => ?_, fun j => ?_⟩, a6, a7, a8, a9, a10, a11⟩, ?_, ?_⟩
  · have hk : (k : Int) < (B 39 13) := hk
    rw [e42, e43, if_neg (by omega), if_neg (by omega)]
    exact o3 k hk
  · simp only [zu_ap]
    by_cases e : j = (B 39 13).toNat
    · simp [e]
      exact x4
    · simp [e]
      exact o4 j
  · rw [e42, if_pos (by omega), f3]
  · rw [e43, if_pos (by omega), f3]
    omega
theorem PZ_top2 (h : PZ B0 B Y st vs cur op fr fc N F tp ow tk sc tm E ht rg bk) (h0 : tp < 40) {sz nu mn ar se : Int} (hm : 1 ≤ mn ∧ mn ≤ 64) (hz : sz = 0 ∨ sz = mn) (hA : 0 ≤ (B 42) tp.toNat ∧ 0 ≤ (B 43) tp.toNat ∧ (B 42) tp.toNat + (B 43) tp.toNat ≤ 3000) : PZ B0 (zu (zu (zu (zu (zu (zu (zu B 44 tp.toNat sz) 45 tp.toNat nu) 46 tp.toNat (B 39 15)) 39 15 ((B 39 15) + mn)) 39 14 ar) 39 18 se) 39 13 ((B 39 13) + 1)) Y st vs cur op fr fc N F (tp + 1) ow tk sc tm E ht rg bk := by
  have tk0 := PZ_tk h
  obtain ⟨a1, a2, a3, a4, ⟨f1, f2, f3, f4, f5, f6, f7, f8, f9, f10, f11⟩, a5, a6, a7, a8, a9, a10, a11⟩ := h
  obtain ⟨o1, o2, o3, o4⟩ := a5
  refine ⟨FR_tr a1 (FR_rf _), a2, a3, a4, ⟨f1, f2, f3, f4, f5, by show (B 39 13) + 1 = tp + 1; omega, f7, f8, f9, f10, f11⟩, ⟨by show 0 ≤ (B 39 13) + 1 ∧ (B 39 13) + 1 ≤ 40; omega, by show 0 ≤ (B 39 15) + mn ∧ (B 39 15) + mn ≤ 64 * ((B 39 13) + 1); omega, fun k hk => ?_, o4⟩, a6, a7, a8, a9, CT_tp a10 (by omega), TD_mono a11 (by omega) (Int.le_refl _) (Int.le_refl _) (Int.le_refl _) a10.1.2.2.2 (fun _ _ => rfl) (fun _ _ _ => ⟨rfl, rfl⟩) (fun _ _ => rfl)⟩
  have hk : (k : Int) < (B 39 13) + 1 := hk
  have e44 : (zu (zu (zu (zu (zu (zu (zu B 44 tp.toNat sz) 45 tp.toNat nu) 46 tp.toNat (B 39 15)) 39 15 ((B 39 15) + mn)) 39 14 ar) 39 18 se) 39 13 ((B 39 13) + 1)) 44 k = if k = tp.toNat then sz else (B 44) k := by simp [zu_ap]
  have e46 : (zu (zu (zu (zu (zu (zu (zu B 44 tp.toNat sz) 45 tp.toNat nu) 46 tp.toNat (B 39 15)) 39 15 ((B 39 15) + mn)) 39 14 ar) 39 18 se) 39 13 ((B 39 13) + 1)) 46 k = if k = tp.toNat then (B 39 15) else (B 46) k := by simp [zu_ap]
  rw [e44, e46]
  show (0 ≤ (B 42) k ∧ 0 ≤ (B 43) k ∧ (B 42) k + (B 43) k ≤ 3000) ∧ _ ∧ _ ∧ _ + _ ≤ (B 39 15) + mn ∧ _ + 1 ≤ (B 39 15) + mn
  by_cases e : k = tp.toNat
  · subst e
    rw [if_pos rfl, if_pos rfl]
    exact ⟨hA, by omega, by omega, by omega, by omega⟩
  · rw [if_neg e, if_neg e]
    obtain ⟨g1, g2, g3, g4, g5⟩ := o3 k (by omega)
    exact ⟨g1, g2, g3, by omega, by omega⟩
theorem td_1 {F tp N tm ow : Int} {o fb pr ht rg bk : Nat → Int} {b c e : Int} : td F tp N tm ow o fb pr ht rg bk 1 0 b c e := by
  refine ⟨fun _ => rfl, ?_, ?_, ?_, ?_, ?_, ?_, ?_, ?_, ?_, ?_, ?_, ?_, ?_⟩ <;> (intro z; omega)
theorem TD_1 {F tp N tm ow : Int} {o fb pr ht rg bk : Nat → Int} : TD F tp N tm ow o fb pr ht rg bk [(1, 0, 0, 0, 0)] := by
  intro x hx
  rw [List.mem_singleton.mp hx]
  exact td_1
abbrev pg1 : List zE := [(1, 0, 0, 0, 0)]
theorem PZ_fn0 (h : PZ B0 B Y st pg1 cur op fr fc N F tp ow tk sc tm E ht rg bk) : PZ B0 (zu (zu (zu (zu B 52 (B 39 17).toNat (B 39 7)) 53 (B 39 17).toNat ((B 39 8) - (B 39 7))) 49 (B 39 17).toNat (B 39 42)) 39 16 0) Y st pg1 cur op fr fc N F tp 0 tk sc tm E ht rg bk := by
  have at0 := PZ_at h
  have tk0 := PZ_tk h
  obtain ⟨a1, a2, a3, a4, ⟨f1, f2, f3, f4, f5, f6, f7, f8, f9, f10, f11⟩, a5, a6, a7, a8, a9, a10, a11⟩ := h
  obtain ⟨o1, o2, o3, o4⟩ := a7
  have x4 := a8.2.2.2
  refine ⟨FR_tr a1 (FR_rf _), a2, a3, a4, ⟨f1, f2, f3, f4, f5, f6, rfl, f8, f9, f10, f11⟩, a5, ⟨by show 0 ≤ (0 : Int) ∧ (0 : Int) ≤ 12; omega, fun k hk => absurd (show (k : Int) < 0 from hk) (by omega), a6.2.2⟩, ⟨o1, fun k hk => ?_, fun j => ?_, o4⟩, a8, a9, a10, TD_1⟩
  · simp only [zu_ap]
    by_cases e : k = (B 39 17).toNat
    · simp [e]
      omega
    · simp [e]
      exact o2 k hk
  · simp only [zu_ap]
    by_cases e : j = (B 39 17).toNat
    · simp [e]
      exact x4
    · simp [e]
      exact o3 j
theorem PZ_par (h : PZ B0 B Y st pg1 cur op fr fc N F tp ow tk sc tm E ht rg bk) (v : Int) : PZ B0 (zu B 55 F.toNat v) Y st pg1 cur op fr fc N F tp ow tk sc tm E ht rg bk := by
  obtain ⟨a1, a2, a3, a4, ⟨f1, f2, f3, f4, f5, f6, f7, f8, f9, f10, f11⟩, a5, a6, a7, a8, a9, a10, a11⟩ := h
  refine ⟨FR_tr a1 (FR_rf _), a2, a3, a4, ⟨f1, f2, f3, f4, f5, f6, f7, f8, f9, f10, f11⟩, a5, a6, a7, a8, a9, CT_fn a10 (fun f hf => ⟨rfl, ?_, rfl⟩), TD_1⟩
  rw [zu_ap, if_neg (by have := a10.1; omega)]
theorem PZ_fbg (h : PZ B0 B Y st pg1 cur op fr fc N F tp ow tk sc tm E ht rg bk) (v : Int) : PZ B0 (zu (zu B 39 37 1) 54 F.toNat v) Y st pg1 cur op fr fc N F tp ow tk sc tm E ht rg bk := by
  obtain ⟨a1, a2, a3, a4, ⟨f1, f2, f3, f4, f5, f6, f7, f8, f9, f10, f11⟩, a5, a6, a7, a8, a9, a10, a11⟩ := h
  refine ⟨FR_tr a1 (FR_rf _), a2, a3, a4, ⟨f1, f2, f3, f4, f5, f6, f7, f8, f9, f10, f11⟩, a5, a6, a7, ⟨a8.1, a8.2.1, Or.inr rfl, a8.2.2.2⟩, a9, CT_fn a10 (fun f hf => ⟨?_, rfl, rfl⟩), TD_1⟩
  show (zu (zu B 39 37 1) 54 F.toNat v) 54 f = (B 54) f
  rw [zu_ap, if_neg (by have := a10.1; omega)]
  rfl
theorem PZ_ps (h : PZ B0 B Y st vs cur op fr fc N F tp ow tk sc tm E ht rg bk) (k : Nat) {v : Int} (hv : v = 0 ∨ v = 1) : PZ B0 (zu B 57 k v) Y st vs cur op fr fc N F tp ow tk sc tm E ht rg bk := by
  obtain ⟨a1, a2, a3, a4, ⟨f1, f2, f3, f4, f5, f6, f7, f8, f9, f10, f11⟩, a5, a6, a7, a8, a9, a10, a11⟩ := h
  refine ⟨FR_tr a1 (FR_rf _), a2, a3, a4, ⟨f1, f2, f3, f4, f5, f6, f7, f8, f9, f10, f11⟩, a5, a6, ⟨a7.1, a7.2.1, a7.2.2.1, fun j => ?_⟩, a8, a9, a10, a11⟩
  rw [zu_ap]
  split
  · exact hv
  · exact a7.2.2.2 j
theorem PF_ps (h : PF B0 B Y on tn) (k : Nat) {v : Int} (hv : v = 0 ∨ v = 1) : PF B0 (zu B 57 k v) Y on tn := by
  obtain ⟨b1, b2, b3, b4, b5, b6, b7, b8, b9, b10⟩ := h
  refine ⟨FR_tr b1 (FR_rf _), b2, b3, b4, b5, b6, b7, b8, ⟨b9.1, b9.2.1, b9.2.2.1, fun j => ?_⟩, b10⟩
  rw [zu_ap]
  split
  · exact hv
  · exact b9.2.2.2 j
theorem PF_x (h : PF B0 B Y on tn) (k : Nat) (v w : Int) : PF B0 (zu B 55 k v) Y on tn ∧ PF B0 (zu (zu B 39 37 1) 54 k w) Y on tn := by
  obtain ⟨b1, b2, b3, b4, b5, b6, b7, b8, b9, b10⟩ := h
  exact ⟨⟨FR_tr b1 (FR_rf _), b2, b3, b4, b5, b6, b7, b8, b9, b10⟩, ⟨FR_tr b1 (FR_rf _), b2, b3, b4, b5, b6, b7, b8, b9, ⟨b10.1, b10.2.1, Or.inr rfl, b10.2.2.2⟩⟩⟩
set_option maxRecDepth 100000 in
set_option maxHeartbeats 4000000 in
theorem z_label0 (hd : 3 ≤ d) (h : PZ B0 B Y st vs cur op fr fc N F tp ow tk sc tm E ht rg bk) (hop : 0 ≤ op ∧ op ≤ 11) (q0 : ∀ B', PF B0 B' Y N (st.length : Int) → Q A B' Y K T) (q1 : ∀ B' Y' f k s, fr < f → (s = 0 ∨ s = 1) → PZ B0 B' Y' st vs cur op f f N F tp ow k s tm E ht rg bk → SM B B' → Q A B' Y' K T) : pzV d 17 [.inr (.inr 39)] (A, B, Y, K, T) Q := by
  obtain ⟨p1, p2, p3, -⟩ := PZ_tk h
  obtain ⟨-, hK, hY, hT, -⟩ := id h
  have e := PZ_eq h
  refine m_label0 hd hK hY hT (PZ_mF h) (fun s x hs x1 x2 => q0 _ (PZ_PF (PZ_sec h hs) hop x1 x2)) (fun s a k f Y' hs z1 z2 g1 g2 g3 g4 g5 g6 => q1 _ _ f k s ?_ hs (PZ_lex (PZ_sec h hs) g1 g2 g3 g4 g5 g6) (SM_rf B))
  have := p2 (by omega)
  omega
set_option maxRecDepth 100000 in
set_option maxHeartbeats 4000000 in
theorem z_own (hd : 5 ≤ d) (h : PZ B0 B Y st vs cur op fr fc N F tp ow tk sc tm E ht rg bk) (hop : 0 ≤ op ∧ op ≤ 11) (q0 : ∀ B' Y', PF B0 B' Y' N (st.length : Int) → Q A B' Y' K T) (q1 : ∀ B' Y' f k s, fr < f → ow + 1 ≤ 12 → PZ B0 B' Y' st vs cur op f f N F tp (ow + 1) k s tm E ht rg bk → (B' 54) = (B 54) → (B' 55) = (B 55) → Q A B' Y' K T) : pzV d 19 [.inr (.inr 39)] (A, B, Y, K, T) Q := by
  have j76f : ∀ B1 Y1, PF B0 B1 Y1 N (st.length : Int) → pq d 19 76 [some (.inr (.inr 39))] [] (A, B1, Y1, K, T) (qV Q) := by
    intro B1 Y1 f1
    have g := PF_eq f1
    refine pq_of 4 [(84, [])] [] ?_
    show ((-2147483648 ≤ (B1 39 10) ∧ (B1 39 10) < 2147483648) ∧ ((B1 39 10) ≤ (0 : Int) → pq d 19 84 [some (.inr (.inr (39 : Nat)))] [] (A, B1, Y1, K, T) (qV Q)) ∧ ((0 : Int) < (B1 39 10) → Q A B1 Y1 K T))
    exact ⟨by omega, fun z => absurd z (by omega), fun _ => q0 _ _ f1⟩
  have j55f : ∀ B1 Y1, PF B0 B1 Y1 N (st.length : Int) → pq d 19 55 [some (.inr (.inr 39))] [] (A, B1, Y1, K, T) (qV Q) := by
    intro B1 Y1 f1
    have g := PF_eq f1
    refine pq_of 3 [(62, []), (76, [])] [] ?_
    show ((-2147483648 ≤ (B1 39 10) ∧ (B1 39 10) < 2147483648) ∧ ((B1 39 10) ≠ (0 : Int) → pq d 19 76 [some (.inr (.inr (39 : Nat)))] [] (A, B1, Y1, K, T) (qV Q)) ∧ ((B1 39 10) = (0 : Int) → pq d 19 62 [some (.inr (.inr (39 : Nat)))] [] (A, B1, Y1, K, T) (qV Q)))
    exact ⟨by omega, fun _ => j76f B1 Y1 f1, fun z => absurd z (by omega)⟩
  have j24f : ∀ B1 Y1, PF B0 B1 Y1 N (st.length : Int) → pq d 19 24 [some (.inr (.inr 39))] [] (A, B1, Y1, K, T) (qV Q) := by
    intro B1 Y1 f1
    have g := PF_eq f1
    refine pq_of 3 [(31, []), (55, [])] [] ?_
    show ((-2147483648 ≤ (B1 39 10) ∧ (B1 39 10) < 2147483648) ∧ ((B1 39 10) ≠ (0 : Int) → pq d 19 55 [some (.inr (.inr (39 : Nat)))] [] (A, B1, Y1, K, T) (qV Q)) ∧ ((B1 39 10) = (0 : Int) → pq d 19 31 [some (.inr (.inr (39 : Nat)))] [] (A, B1, Y1, K, T) (qV Q)))
    exact ⟨by omega, fun _ => j55f B1 Y1 f1, fun z => absurd z (by omega)⟩
  refine pzV_of 5 [(11, []), (24, [])] [] ?_
  show (0 < d ∧ pzV (d - 1) 17 [.inr (.inr (39 : Nat))] (A, B, Y, K, T) (fun Av1 Bv1 Yv1 Kv1 Tv1 => ((-2147483648 ≤ (Bv1 39 10) ∧ (Bv1 39 10) < 2147483648) ∧ ((Bv1 39 10) ≠ (0 : Int) → pq d 19 24 [some (.inr (.inr (39 : Nat)))] [] (Av1, Bv1, Yv1, Kv1, Tv1) (qV Q)) ∧ ((Bv1 39 10) = (0 : Int) → pq d 19 11 [some (.inr (.inr (39 : Nat)))] [] (Av1, Bv1, Yv1, Kv1, Tv1) (qV Q)))))
  refine ⟨by omega, z_label0 (by omega) h hop (fun B1 f1 => ?_) (fun B1 Y1 fr1 k1 s1 g1 hs h1 sm1 => ?_)⟩
  · have g := PF_eq f1
    exact ⟨by omega, fun _ => j24f B1 Y f1, fun z => absurd z (by omega)⟩
  · have e1 := PZ_eq h1
    obtain ⟨p1, p2, p3, p4, p5, p6, p7, p8⟩ := PZ_tk h1
    obtain ⟨-, hK1, -, hT1, -, -, hO1, -⟩ := id h1
    have o1 := hO1.1
    obtain ⟨-, -, -, sm54, sm55, -⟩ := SM_k sm1
    refine ⟨by omega, fun z => absurd e1.1 z, fun _ => ?_⟩
    have j24 : k1 = 3 → pq d 19 24 [some (.inr (.inr 39))] [] (A, B1, Y1, K, T) (qV Q) := by
      intro hk
      refine pq_of 15 [(55, [])] [] ?_
      show ((-2147483648 ≤ (B1 39 10) ∧ (B1 39 10) < 2147483648) ∧ ((B1 39 10) ≠ (0 : Int) → pq d 19 55 [some (.inr (.inr (39 : Nat)))] [] (A, B1, Y1, K, T) (qV Q)) ∧ ((B1 39 10) = (0 : Int) → (0 < d ∧ pzI (d - 1) 14 [.inr (.inr (39 : Nat)), .inr (.inr (50 : Nat)), .inr (.inr (51 : Nat)), .inl (B1 39 16)] (A, B1, Y1, K, T) (fun nv1 Av1 Bv1 Yv1 Kv1 Tv1 => ((-2147483648 ≤ nv1 ∧ nv1 < 2147483648) ∧ (nv1 < (0 : Int) → pq d 19 55 [some (.inr (.inr (39 : Nat)))] [] (Av1, Bv1, Yv1, Kv1, Tv1) (qV Q)) ∧ ((0 : Int) ≤ nv1 → (0 < d ∧ pzV (d - 1) 9 [.inr (.inr (39 : Nat)), .inl (3 : Int)] (Av1, Bv1, Yv1, Kv1, Tv1) (fun Av2 Bv2 Yv2 Kv2 Tv2 => pq d 19 55 [some (.inr (.inr (39 : Nat)))] [] (Av2, Bv2, Yv2, Kv2, Tv2) (qV Q)))))))))
      refine ⟨by omega, fun z => absurd e1.1 z, fun _ => ⟨by omega, m_find_50 (by omega) hK1 hT1 o1.1 o1.2 (fun k hk => hO1.2.1 k hk) (fun r r1 r2 => ⟨by omega, fun _ => ?_, fun _ => ⟨by omega, z_fail h1 hop (by omega) (fun B2 f2 _ => j55f B2 Y1 f2)⟩⟩)⟩⟩
      refine pq_of 10 [(76, [])] [] ?_
      show ((-2147483648 ≤ (B1 39 10) ∧ (B1 39 10) < 2147483648) ∧ ((B1 39 10) ≠ (0 : Int) → pq d 19 76 [some (.inr (.inr (39 : Nat)))] [] (A, B1, Y1, K, T) (qV Q)) ∧ ((B1 39 10) = (0 : Int) → ((-2147483648 ≤ (B1 39 16) ∧ (B1 39 16) < 2147483648) ∧ (-2147483648 ≤ (12 : Int) ∧ (12 : Int) < 2147483648) ∧ ((B1 39 16) ≠ (12 : Int) → pq d 19 76 [some (.inr (.inr (39 : Nat)))] [] (A, B1, Y1, K, T) (qV Q)) ∧ ((B1 39 16) = (12 : Int) → (0 < d ∧ pzV (d - 1) 9 [.inr (.inr (39 : Nat)), .inl (4 : Int)] (A, B1, Y1, K, T) (fun Av1 Bv1 Yv1 Kv1 Tv1 => pq d 19 76 [some (.inr (.inr (39 : Nat)))] [] (Av1, Bv1, Yv1, Kv1, Tv1) (qV Q)))))))
      refine ⟨by omega, fun z => absurd e1.1 z, fun _ => ⟨by omega, by omega, fun z12 => ?_, fun _ => ⟨by omega, z_fail h1 hop (by omega) (fun B2 f2 _ => j76f B2 Y1 f2)⟩⟩⟩
      refine pq_of 36 [] [] ?_
      show ((-2147483648 ≤ (B1 39 10) ∧ (B1 39 10) < 2147483648) ∧ ((B1 39 10) ≤ (0 : Int) → ((0 ≤ (B1 39 16) ∧ (B1 39 16) < (12 : Int)) ∧ ((0 ≤ (B1 39 16) ∧ (B1 39 16) < (12 : Int)) ∧ ((0 ≤ (B1 39 16) ∧ (B1 39 16) < (12 : Int)) ∧ ((B1 39 42) = 0 ∨ (B1 39 42) = 1) ∧ (0 < d ∧ pzV (d - 1) 5 [.inr (.inr (39 : Nat))] (A, (zu (zu (zu (zu B1 50 ((B1 39 16)).toNat (B1 39 7)) 51 ((B1 39 16)).toNat ((B1 39 8) - (B1 39 7))) 48 ((B1 39 16)).toNat (B1 39 42)) 39 16 ((B1 39 16) + (1 : Int))), Y1, K, T) (fun Av1 Bv1 Yv1 Kv1 Tv1 => Q Av1 Bv1 Yv1 Kv1 Tv1)))))) ∧ ((0 : Int) < (B1 39 10) → Q A B1 Y1 K T))
      refine ⟨by omega, fun _ => ⟨by omega, by omega, by omega, by omega, by omega, z_next (by omega) (PZ_own h1 (by omega)) (fun B3 Y3 f3 k3 g2 g3 h3 sm3 => q1 B3 Y3 f3 k3 s1 (by omega) (by omega) h3 ?_ ?_)⟩, fun z => absurd z (by omega)⟩
      · obtain ⟨-, -, -, q54, q55, -⟩ := SM_k sm3
        rw [q54]
        exact sm54
      · obtain ⟨-, -, -, q54, q55, -⟩ := SM_k sm3
        rw [q55]
        exact sm55
    refine pq_of 7 [(24, [])] [] ?_
    show ((-2147483648 ≤ (B1 39 6) ∧ (B1 39 6) < 2147483648) ∧ (-2147483648 ≤ (3 : Int) ∧ (3 : Int) < 2147483648) ∧ ((B1 39 6) = (3 : Int) → pq d 19 24 [some (.inr (.inr (39 : Nat)))] [] (A, B1, Y1, K, T) (qV Q)) ∧ ((B1 39 6) ≠ (3 : Int) → (0 < d ∧ pzV (d - 1) 9 [.inr (.inr (39 : Nat)), .inl (1 : Int)] (A, B1, Y1, K, T) (fun Av1 Bv1 Yv1 Kv1 Tv1 => pq d 19 24 [some (.inr (.inr (39 : Nat)))] [] (Av1, Bv1, Yv1, Kv1, Tv1) (qV Q)))))
    exact ⟨by omega, by omega, fun z => j24 (by omega), fun z => ⟨by omega, z_fail h1 hop (by omega) (fun B2 f2 _ => j24f B2 Y1 f2)⟩⟩
set_option maxRecDepth 100000 in
set_option maxHeartbeats 4000000 in
theorem z_top (hd : 6 ≤ d) (h : PZ B0 B Y st vs cur op fr fc N F tp ow tk sc tm E ht rg bk) (hop : 0 ≤ op ∧ op ≤ 11) (q0 : ∀ B' Y', PF B0 B' Y' N (st.length : Int) → Q A B' Y' K T) (q1 : ∀ B' Y' f k s, fr < f → PZ B0 B' Y' st vs cur op f f N F (tp + 1) ow k s tm E ht rg bk → Q A B' Y' K T) : pzV d 18 [.inr (.inr 39)] (A, B, Y, K, T) Q := by
  have j76f : ∀ B1 Y1, PF B0 B1 Y1 N (st.length : Int) → pq d 18 76 [some (.inr (.inr 39)), none, none, none] [] (A, B1, Y1, K, T) (qV Q) := by
    intro B1 Y1 f1
    have g := PF_eq f1
    refine pq_of 4 [(84, [])] [] ?_
    show ((-2147483648 ≤ (B1 39 10) ∧ (B1 39 10) < 2147483648) ∧ ((B1 39 10) ≤ (0 : Int) → pq d 18 84 [some (.inr (.inr (39 : Nat))), none, none, none] [] (A, B1, Y1, K, T) (qV Q)) ∧ ((0 : Int) < (B1 39 10) → Q A B1 Y1 K T))
    exact ⟨by omega, fun z => absurd z (by omega), fun _ => q0 _ _ f1⟩
  have j55f : ∀ B1 Y1, PF B0 B1 Y1 N (st.length : Int) → pq d 18 55 [some (.inr (.inr 39)), none, none, none] [] (A, B1, Y1, K, T) (qV Q) := by
    intro B1 Y1 f1
    have g := PF_eq f1
    refine pq_of 3 [(62, []), (76, [])] [] ?_
    show ((-2147483648 ≤ (B1 39 10) ∧ (B1 39 10) < 2147483648) ∧ ((B1 39 10) ≠ (0 : Int) → pq d 18 76 [some (.inr (.inr (39 : Nat))), none, none, none] [] (A, B1, Y1, K, T) (qV Q)) ∧ ((B1 39 10) = (0 : Int) → pq d 18 62 [some (.inr (.inr (39 : Nat))), none, none, none] [] (A, B1, Y1, K, T) (qV Q)))
    exact ⟨by omega, fun _ => j76f B1 Y1 f1, fun z => absurd z (by omega)⟩
  have j24f : ∀ B1 Y1, PF B0 B1 Y1 N (st.length : Int) → pq d 18 24 [some (.inr (.inr 39)), none, none, none] [] (A, B1, Y1, K, T) (qV Q) := by
    intro B1 Y1 f1
    have g := PF_eq f1
    refine pq_of 3 [(31, []), (55, [])] [] ?_
    show ((-2147483648 ≤ (B1 39 10) ∧ (B1 39 10) < 2147483648) ∧ ((B1 39 10) ≠ (0 : Int) → pq d 18 55 [some (.inr (.inr (39 : Nat))), none, none, none] [] (A, B1, Y1, K, T) (qV Q)) ∧ ((B1 39 10) = (0 : Int) → pq d 18 31 [some (.inr (.inr (39 : Nat))), none, none, none] [] (A, B1, Y1, K, T) (qV Q)))
    exact ⟨by omega, fun _ => j55f B1 Y1 f1, fun z => absurd z (by omega)⟩
  have j197f : ∀ B1 Y1 k a n, PF B0 B1 Y1 N (st.length : Int) → pq d 18 197 [some (.inr (.inr 39)), some (.inl k), some (.inl a), some (.inl n)] [] (A, B1, Y1, K, T) (qV Q) := by
    intro B1 Y1 k a n f1
    refine pq_of 7 [(211, [])] [] ?_
    show (0 < d ∧ pzV (d - 1) 11 [.inr (.inr (39 : Nat)), .inl (59 : Int)] (A, B1, Y1, K, T) (fun Av1 Bv1 Yv1 Kv1 Tv1 => ((-2147483648 ≤ (Bv1 39 10) ∧ (Bv1 39 10) < 2147483648) ∧ ((Bv1 39 10) ≤ (0 : Int) → pq d 18 211 [some (.inr (.inr (39 : Nat))), some (.inl k), some (.inl a), some (.inl n)] [] (Av1, Bv1, Yv1, Kv1, Tv1) (qV Q)) ∧ ((0 : Int) < (Bv1 39 10) → Q Av1 Bv1 Yv1 Kv1 Tv1))))
    refine ⟨by omega, f_must (by omega) f1 (by omega) (fun B2 f2 => ?_)⟩
    have g := PF_eq f2
    exact ⟨by omega, fun z => absurd z (by omega), fun _ => q0 _ _ f2⟩
  have fin : ∀ B1 Y1 f1 k1 s1 a n, fr < f1 → tp < 40 → (a = 0 ∨ a = 1) → (1 ≤ n ∧ n ≤ 64) → (a = 0 → n = 1) → PZ B0 B1 Y1 st vs cur op f1 f1 N F tp ow k1 s1 tm E ht rg bk → (0 ≤ (B1 42) tp.toNat ∧ 0 ≤ (B1 43) tp.toNat ∧ (B1 42) tp.toNat + (B1 43) tp.toNat ≤ 3000) → pq d 18 197 [some (.inr (.inr 39)), some (.inl tp), some (.inl a), some (.inl n)] [] (A, B1, Y1, K, T) (qV Q) := by
    intro B1 Y1 f1 k1 s1 a n g1 tp40 ha hn han h1 hA
    refine pq_of 7 [(211, [])] [] ?_
    show (0 < d ∧ pzV (d - 1) 11 [.inr (.inr (39 : Nat)), .inl (59 : Int)] (A, B1, Y1, K, T) (fun Av1 Bv1 Yv1 Kv1 Tv1 => ((-2147483648 ≤ (Bv1 39 10) ∧ (Bv1 39 10) < 2147483648) ∧ ((Bv1 39 10) ≤ (0 : Int) → pq d 18 211 [some (.inr (.inr (39 : Nat))), some (.inl tp), some (.inl a), some (.inl n)] [] (Av1, Bv1, Yv1, Kv1, Tv1) (qV Q)) ∧ ((0 : Int) < (Bv1 39 10) → Q Av1 Bv1 Yv1 Kv1 Tv1))))
    refine ⟨by omega, z_must (by omega) h1 hop (by omega) (fun B2 f2 => ?_) (fun B2 Y2 f2 k2 z g2 g3 h2 sm2 => ?_)⟩
    · have g := PF_eq f2
      exact ⟨by omega, fun z => absurd z (by omega), fun _ => q0 _ _ f2⟩
    · have e2 := PZ_eq h2
      obtain ⟨p1, p2, p3, p4, p5, p6, p7, p8⟩ := PZ_tk h2
      refine ⟨by omega, fun _ => ?_, fun z => absurd z (by omega)⟩
      obtain ⟨x42, x43, x44, x45, x46, x47, -⟩ := sm2
      have hA2 : 0 ≤ (B2 42) tp.toNat ∧ 0 ≤ (B2 43) tp.toNat ∧ (B2 42) tp.toNat + (B2 43) tp.toNat ≤ 3000 := by rw [x42, x43]; exact hA
      obtain ⟨-, -, -, -, -, hD2, -⟩ := id h2
      have s47 := hD2.2.2.2 tp.toNat
      have key : ∀ sz nu ar se, (sz = 0 ∨ sz = n) → Q A (zu (zu (zu (zu (zu (zu (zu B2 44 tp.toNat sz) 45 tp.toNat nu) 46 tp.toNat (B2 39 15)) 39 15 ((B2 39 15) + n)) 39 14 ar) 39 18 se) 39 13 ((B2 39 13) + 1)) Y2 K T := fun sz nu ar se hz => q1 _ _ f2 k2 s1 (by omega) (PZ_top2 h2 tp40 hn hz hA2)
      refine pq_of 57 [] [292] ?_
      show ((-2147483648 ≤ a ∧ a < 2147483648) ∧ (a = (0 : Int) → ((0 ≤ tp ∧ tp < (40 : Int)) ∧ ((-2147483648 ≤ a ∧ a < 2147483648) ∧ (a = (0 : Int) → ((0 ≤ tp ∧ tp < (40 : Int)) ∧ ((0 ≤ tp ∧ tp < (40 : Int)) ∧ ((-2147483648 ≤ a ∧ a < 2147483648) ∧ (a = (0 : Int) → ((0 ≤ tp ∧ tp < (40 : Int)) ∧ (Q A (zu (zu (zu (zu (zu (zu (zu B2 44 (tp).toNat (0 : Int)) 45 (tp).toNat (-1 : Int)) 46 (tp).toNat (B2 39 15)) 39 15 ((B2 39 15) + n)) 39 14 (B2 39 14)) 39 18 (B2 39 18)) 39 13 ((B2 39 13) + (1 : Int))) Y2 K T ∧ Q A (zu (zu (zu (zu (zu (zu (zu B2 44 (tp).toNat (0 : Int)) 45 (tp).toNat (-1 : Int)) 46 (tp).toNat (B2 39 15)) 39 15 ((B2 39 15) + n)) 39 14 (B2 39 14)) 39 18 ((B2 39 18) + (1 : Int))) 39 13 ((B2 39 13) + (1 : Int))) Y2 K T))) ∧ (a ≠ (0 : Int) → ((0 ≤ tp ∧ tp < (40 : Int)) ∧ (Q A (zu (zu (zu (zu (zu (zu (zu B2 44 (tp).toNat (0 : Int)) 45 (tp).toNat (-1 : Int)) 46 (tp).toNat (B2 39 15)) 39 15 ((B2 39 15) + n)) 39 14 ((B2 39 14) + (1 : Int))) 39 18 (B2 39 18)) 39 13 ((B2 39 13) + (1 : Int))) Y2 K T ∧ Q A (zu (zu (zu (zu (zu (zu (zu B2 44 (tp).toNat (0 : Int)) 45 (tp).toNat (-1 : Int)) 46 (tp).toNat (B2 39 15)) 39 15 ((B2 39 15) + n)) 39 14 ((B2 39 14) + (1 : Int))) 39 18 ((B2 39 18) + (1 : Int))) 39 13 ((B2 39 13) + (1 : Int))) Y2 K T))))))) ∧ (a ≠ (0 : Int) → ((0 ≤ tp ∧ tp < (40 : Int)) ∧ ((0 ≤ tp ∧ tp < (40 : Int)) ∧ ((-2147483648 ≤ a ∧ a < 2147483648) ∧ (a = (0 : Int) → ((0 ≤ tp ∧ tp < (40 : Int)) ∧ (Q A (zu (zu (zu (zu (zu (zu (zu B2 44 (tp).toNat (0 : Int)) 45 (tp).toNat (B2 39 14)) 46 (tp).toNat (B2 39 15)) 39 15 ((B2 39 15) + n)) 39 14 (B2 39 14)) 39 18 (B2 39 18)) 39 13 ((B2 39 13) + (1 : Int))) Y2 K T ∧ Q A (zu (zu (zu (zu (zu (zu (zu B2 44 (tp).toNat (0 : Int)) 45 (tp).toNat (B2 39 14)) 46 (tp).toNat (B2 39 15)) 39 15 ((B2 39 15) + n)) 39 14 (B2 39 14)) 39 18 ((B2 39 18) + (1 : Int))) 39 13 ((B2 39 13) + (1 : Int))) Y2 K T))) ∧ (a ≠ (0 : Int) → ((0 ≤ tp ∧ tp < (40 : Int)) ∧ (Q A (zu (zu (zu (zu (zu (zu (zu B2 44 (tp).toNat (0 : Int)) 45 (tp).toNat (B2 39 14)) 46 (tp).toNat (B2 39 15)) 39 15 ((B2 39 15) + n)) 39 14 ((B2 39 14) + (1 : Int))) 39 18 (B2 39 18)) 39 13 ((B2 39 13) + (1 : Int))) Y2 K T ∧ Q A (zu (zu (zu (zu (zu (zu (zu B2 44 (tp).toNat (0 : Int)) 45 (tp).toNat (B2 39 14)) 46 (tp).toNat (B2 39 15)) 39 15 ((B2 39 15) + n)) 39 14 ((B2 39 14) + (1 : Int))) 39 18 ((B2 39 18) + (1 : Int))) 39 13 ((B2 39 13) + (1 : Int))) Y2 K T)))))))))) ∧ (a ≠ (0 : Int) → ((0 ≤ tp ∧ tp < (40 : Int)) ∧ ((-2147483648 ≤ a ∧ a < 2147483648) ∧ (a = (0 : Int) → ((0 ≤ tp ∧ tp < (40 : Int)) ∧ ((0 ≤ tp ∧ tp < (40 : Int)) ∧ ((-2147483648 ≤ a ∧ a < 2147483648) ∧ (a = (0 : Int) → ((0 ≤ tp ∧ tp < (40 : Int)) ∧ (Q A (zu (zu (zu (zu (zu (zu (zu B2 44 (tp).toNat n) 45 (tp).toNat (-1 : Int)) 46 (tp).toNat (B2 39 15)) 39 15 ((B2 39 15) + n)) 39 14 (B2 39 14)) 39 18 (B2 39 18)) 39 13 ((B2 39 13) + (1 : Int))) Y2 K T ∧ Q A (zu (zu (zu (zu (zu (zu (zu B2 44 (tp).toNat n) 45 (tp).toNat (-1 : Int)) 46 (tp).toNat (B2 39 15)) 39 15 ((B2 39 15) + n)) 39 14 (B2 39 14)) 39 18 ((B2 39 18) + (1 : Int))) 39 13 ((B2 39 13) + (1 : Int))) Y2 K T))) ∧ (a ≠ (0 : Int) → ((0 ≤ tp ∧ tp < (40 : Int)) ∧ (Q A (zu (zu (zu (zu (zu (zu (zu B2 44 (tp).toNat n) 45 (tp).toNat (-1 : Int)) 46 (tp).toNat (B2 39 15)) 39 15 ((B2 39 15) + n)) 39 14 ((B2 39 14) + (1 : Int))) 39 18 (B2 39 18)) 39 13 ((B2 39 13) + (1 : Int))) Y2 K T ∧ Q A (zu (zu (zu (zu (zu (zu (zu B2 44 (tp).toNat n) 45 (tp).toNat (-1 : Int)) 46 (tp).toNat (B2 39 15)) 39 15 ((B2 39 15) + n)) 39 14 ((B2 39 14) + (1 : Int))) 39 18 ((B2 39 18) + (1 : Int))) 39 13 ((B2 39 13) + (1 : Int))) Y2 K T))))))) ∧ (a ≠ (0 : Int) → ((0 ≤ tp ∧ tp < (40 : Int)) ∧ ((0 ≤ tp ∧ tp < (40 : Int)) ∧ ((-2147483648 ≤ a ∧ a < 2147483648) ∧ (a = (0 : Int) → ((0 ≤ tp ∧ tp < (40 : Int)) ∧ (Q A (zu (zu (zu (zu (zu (zu (zu B2 44 (tp).toNat n) 45 (tp).toNat (B2 39 14)) 46 (tp).toNat (B2 39 15)) 39 15 ((B2 39 15) + n)) 39 14 (B2 39 14)) 39 18 (B2 39 18)) 39 13 ((B2 39 13) + (1 : Int))) Y2 K T ∧ Q A (zu (zu (zu (zu (zu (zu (zu B2 44 (tp).toNat n) 45 (tp).toNat (B2 39 14)) 46 (tp).toNat (B2 39 15)) 39 15 ((B2 39 15) + n)) 39 14 (B2 39 14)) 39 18 ((B2 39 18) + (1 : Int))) 39 13 ((B2 39 13) + (1 : Int))) Y2 K T))) ∧ (a ≠ (0 : Int) → ((0 ≤ tp ∧ tp < (40 : Int)) ∧ (Q A (zu (zu (zu (zu (zu (zu (zu B2 44 (tp).toNat n) 45 (tp).toNat (B2 39 14)) 46 (tp).toNat (B2 39 15)) 39 15 ((B2 39 15) + n)) 39 14 ((B2 39 14) + (1 : Int))) 39 18 (B2 39 18)) 39 13 ((B2 39 13) + (1 : Int))) Y2 K T ∧ Q A (zu (zu (zu (zu (zu (zu (zu B2 44 (tp).toNat n) 45 (tp).toNat (B2 39 14)) 46 (tp).toNat (B2 39 15)) 39 15 ((B2 39 15) + n)) 39 14 ((B2 39 14) + (1 : Int))) 39 18 ((B2 39 18) + (1 : Int))) 39 13 ((B2 39 13) + (1 : Int))) Y2 K T)))))))))))
      refine ⟨by omega, fun z => ⟨by omega, by omega, fun _ => ⟨by omega, by omega, by omega, fun _ => ⟨by omega, key _ _ _ _ (Or.inl rfl), key _ _ _ _ (Or.inl rfl)⟩, fun w => absurd z w⟩, fun w => absurd z w⟩, fun z => ⟨by omega, by omega, fun w => absurd w z, fun _ => ⟨by omega, by omega, by omega, fun w => absurd w z, fun _ => ⟨by omega, key _ _ _ _ (Or.inr rfl), key _ _ _ _ (Or.inr rfl)⟩⟩⟩⟩
  refine pzV_of 5 [(11, []), (24, [])] [] ?_
  show (0 < d ∧ pzV (d - 1) 17 [.inr (.inr (39 : Nat))] (A, B, Y, K, T) (fun Av1 Bv1 Yv1 Kv1 Tv1 => ((-2147483648 ≤ (Bv1 39 10) ∧ (Bv1 39 10) < 2147483648) ∧ ((Bv1 39 10) ≠ (0 : Int) → pq d 18 24 [some (.inr (.inr (39 : Nat))), none, none, none] [] (Av1, Bv1, Yv1, Kv1, Tv1) (qV Q)) ∧ ((Bv1 39 10) = (0 : Int) → pq d 18 11 [some (.inr (.inr (39 : Nat))), none, none, none] [] (Av1, Bv1, Yv1, Kv1, Tv1) (qV Q)))))
  refine ⟨by omega, z_label0 (by omega) h hop (fun B1 f1 => ?_) (fun B1 Y1 fr1 k1 s1 g1 hs h1 sm1 => ?_)⟩
  · have g := PF_eq f1
    exact ⟨by omega, fun _ => j24f B1 Y f1, fun z => absurd z (by omega)⟩
  · have e1 := PZ_eq h1
    have at1 := PZ_at h1
    obtain ⟨p1, p2, p3, p4, p5, p6, p7, p8⟩ := PZ_tk h1
    obtain ⟨-, hK1, -, hT1, -, hD1, -⟩ := id h1
    have o1 := hD1.1
    refine ⟨by omega, fun z => absurd e1.1 z, fun _ => ?_⟩
    have j24 : k1 = 3 → pq d 18 24 [some (.inr (.inr 39)), none, none, none] [] (A, B1, Y1, K, T) (qV Q) := by
      intro hk
      refine pq_of 15 [(55, [])] [] ?_
      show ((-2147483648 ≤ (B1 39 10) ∧ (B1 39 10) < 2147483648) ∧ ((B1 39 10) ≠ (0 : Int) → pq d 18 55 [some (.inr (.inr (39 : Nat))), none, none, none] [] (A, B1, Y1, K, T) (qV Q)) ∧ ((B1 39 10) = (0 : Int) → (0 < d ∧ pzI (d - 1) 14 [.inr (.inr (39 : Nat)), .inr (.inr (42 : Nat)), .inr (.inr (43 : Nat)), .inl (B1 39 13)] (A, B1, Y1, K, T) (fun nv1 Av1 Bv1 Yv1 Kv1 Tv1 => ((-2147483648 ≤ nv1 ∧ nv1 < 2147483648) ∧ (nv1 < (0 : Int) → pq d 18 55 [some (.inr (.inr (39 : Nat))), none, none, none] [] (Av1, Bv1, Yv1, Kv1, Tv1) (qV Q)) ∧ ((0 : Int) ≤ nv1 → (0 < d ∧ pzV (d - 1) 9 [.inr (.inr (39 : Nat)), .inl (3 : Int)] (Av1, Bv1, Yv1, Kv1, Tv1) (fun Av2 Bv2 Yv2 Kv2 Tv2 => pq d 18 55 [some (.inr (.inr (39 : Nat))), none, none, none] [] (Av2, Bv2, Yv2, Kv2, Tv2) (qV Q)))))))))
      refine ⟨by omega, fun z => absurd e1.1 z, fun _ => ⟨by omega, m_find_42 (by omega) hK1 hT1 o1.1 o1.2 (fun k hk => (hD1.2.2.1 k hk).1) (fun r r1 r2 => ⟨by omega, fun _ => ?_, fun _ => ⟨by omega, z_fail h1 hop (by omega) (fun B2 f2 _ => j55f B2 Y1 f2)⟩⟩)⟩⟩
      refine pq_of 10 [(76, [])] [] ?_
      show ((-2147483648 ≤ (B1 39 10) ∧ (B1 39 10) < 2147483648) ∧ ((B1 39 10) ≠ (0 : Int) → pq d 18 76 [some (.inr (.inr (39 : Nat))), none, none, none] [] (A, B1, Y1, K, T) (qV Q)) ∧ ((B1 39 10) = (0 : Int) → ((-2147483648 ≤ (B1 39 13) ∧ (B1 39 13) < 2147483648) ∧ (-2147483648 ≤ (40 : Int) ∧ (40 : Int) < 2147483648) ∧ ((B1 39 13) ≠ (40 : Int) → pq d 18 76 [some (.inr (.inr (39 : Nat))), none, none, none] [] (A, B1, Y1, K, T) (qV Q)) ∧ ((B1 39 13) = (40 : Int) → (0 < d ∧ pzV (d - 1) 9 [.inr (.inr (39 : Nat)), .inl (4 : Int)] (A, B1, Y1, K, T) (fun Av1 Bv1 Yv1 Kv1 Tv1 => pq d 18 76 [some (.inr (.inr (39 : Nat))), none, none, none] [] (Av1, Bv1, Yv1, Kv1, Tv1) (qV Q)))))))
      refine ⟨by omega, fun z => absurd e1.1 z, fun _ => ⟨by omega, by omega, fun z40 => ?_, fun _ => ⟨by omega, z_fail h1 hop (by omega) (fun B2 f2 _ => j76f B2 Y1 f2)⟩⟩⟩
      have tp40 : tp < 40 := by omega
      obtain ⟨h2, a42, a43⟩ := PZ_top1 h1 tp40
      refine pq_of 29 [(128, [])] [] ?_
      show ((-2147483648 ≤ (B1 39 10) ∧ (B1 39 10) < 2147483648) ∧ ((B1 39 10) ≤ (0 : Int) → ((0 ≤ (B1 39 13) ∧ (B1 39 13) < (40 : Int)) ∧ ((0 ≤ (B1 39 13) ∧ (B1 39 13) < (40 : Int)) ∧ ((0 ≤ (B1 39 13) ∧ (B1 39 13) < (40 : Int)) ∧ ((B1 39 42) = 0 ∨ (B1 39 42) = 1) ∧ (0 < d ∧ pzV (d - 1) 5 [.inr (.inr (39 : Nat))] (A, (zu (zu (zu B1 42 ((B1 39 13)).toNat (B1 39 7)) 43 ((B1 39 13)).toNat ((B1 39 8) - (B1 39 7))) 47 ((B1 39 13)).toNat (B1 39 42)), Y1, K, T) (fun Av1 Bv1 Yv1 Kv1 Tv1 => pq d 18 128 [some (.inr (.inr (39 : Nat))), some (.inl (B1 39 13)), none, none] [] (Av1, Bv1, Yv1, Kv1, Tv1) (qV Q))))))) ∧ ((0 : Int) < (B1 39 10) → Q A B1 Y1 K T))
      refine ⟨by omega, fun _ => ⟨by omega, by omega, by omega, by omega, by omega, z_next (by omega) h2 (fun B3 Y3 f3 k3 g2 g3 h3 sm3 => ?_)⟩, fun z => absurd z (by omega)⟩
      have hA3 : 0 ≤ (B3 42) tp.toNat ∧ 0 ≤ (B3 43) tp.toNat ∧ (B3 42) tp.toNat + (B3 43) tp.toNat ≤ 3000 := by
        obtain ⟨x42, x43, -⟩ := sm3
        rw [x42, x43, a42, a43]
        omega
      rw [e1.2.2.2.2.2.1]
      refine pq_of 8 [(141, []), (197, [])] [] ?_
      show (0 < d ∧ pzI (d - 1) 10 [.inr (.inr (39 : Nat)), .inl (91 : Int)] (A, B3, Y3, K, T) (fun nv1 Av1 Bv1 Yv1 Kv1 Tv1 => ((-2147483648 ≤ nv1 ∧ nv1 < 2147483648) ∧ (nv1 = (0 : Int) → pq d 18 197 [some (.inr (.inr (39 : Nat))), some (.inl tp), some (.inl nv1), some (.inl (1 : Int))] [] (Av1, Bv1, Yv1, Kv1, Tv1) (qV Q)) ∧ (nv1 ≠ (0 : Int) → pq d 18 141 [some (.inr (.inr (39 : Nat))), some (.inl tp), some (.inl nv1), some (.inl (1 : Int))] [] (Av1, Bv1, Yv1, Kv1, Tv1) (qV Q)))))
      refine ⟨by omega, z_meets (by omega) h3 (by omega) (fun z => ⟨by omega, fun _ => fin B3 Y3 f3 k3 s1 0 1 (by omega) tp40 (Or.inl rfl) (by omega) (fun _ => rfl) h3 hA3, fun w => absurd rfl w⟩) (fun B4 Y4 f4 k4 z g4 g5 h4 sm4 => ⟨by omega, fun w => absurd w (by omega), fun _ => ?_⟩)⟩
      have e4 := PZ_eq h4
      have hA4 : 0 ≤ (B4 42) tp.toNat ∧ 0 ≤ (B4 43) tp.toNat ∧ (B4 42) tp.toNat + (B4 43) tp.toNat ≤ 3000 := by
        obtain ⟨x42, x43, -⟩ := sm4
        rw [x42, x43]
        exact hA3
      obtain ⟨q1', q2', q3', -⟩ := PZ_tk h4
      obtain ⟨-, -, hY4, -⟩ := id h4
      obtain ⟨y1, y2⟩ := hY4
      have j174 : 1 ≤ Y4 39 9 → Y4 39 9 ≤ 64 → pq d 18 174 [some (.inr (.inr 39)), some (.inl tp), some (.inl 1), none] [] (A, B4, Y4, K, T) (qV Q) := by
        intro n1 n2
        refine pq_of 12 [(197, [])] [] ?_
        show ((-2147483648 ≤ (B4 39 10) ∧ (B4 39 10) < 2147483648) ∧ ((B4 39 10) ≠ (0 : Int) → (0 < d ∧ pzV (d - 1) 11 [.inr (.inr (39 : Nat)), .inl (93 : Int)] (A, B4, Y4, K, T) (fun Av1 Bv1 Yv1 Kv1 Tv1 => pq d 18 197 [some (.inr (.inr (39 : Nat))), some (.inl tp), some (.inl (1 : Int)), some (.inl (Y4 39 9))] [] (Av1, Bv1, Yv1, Kv1, Tv1) (qV Q)))) ∧ ((B4 39 10) = (0 : Int) → (0 < d ∧ pzV (d - 1) 5 [.inr (.inr (39 : Nat))] (A, B4, Y4, K, T) (fun Av2 Bv2 Yv2 Kv2 Tv2 => (0 < d ∧ pzV (d - 1) 11 [.inr (.inr (39 : Nat)), .inl (93 : Int)] (Av2, Bv2, Yv2, Kv2, Tv2) (fun Av3 Bv3 Yv3 Kv3 Tv3 => pq d 18 197 [some (.inr (.inr (39 : Nat))), some (.inl tp), some (.inl (1 : Int)), some (.inl (Y4 39 9))] [] (Av3, Bv3, Yv3, Kv3, Tv3) (qV Q)))))))
        refine ⟨by omega, fun z => absurd e4.1 z, fun _ => ⟨by omega, z_next (by omega) h4 (fun B5 Y5 f5 k5 g6 g7 h5 sm5 => ⟨by omega, z_must (by omega) h5 hop (by omega) (fun B6 f6 => j197f B6 Y5 _ _ _ f6) (fun B6 Y6 f6 k6 z g8 g9 h6 sm6 => ?_)⟩)⟩⟩
        refine fin B6 Y6 f6 k6 s1 1 (Y4 39 9) (by omega) tp40 (Or.inr rfl) ⟨n1, n2⟩ (fun w => by omega) h6 ?_
        obtain ⟨x42, x43, -⟩ := sm5
        obtain ⟨v42, v43, -⟩ := sm6
        rw [v42, v43, x42, x43]
        exact hA4
      have j169 : pq d 18 169 [some (.inr (.inr 39)), some (.inl tp), some (.inl 1), none] [] (A, B4, Y4, K, T) (qV Q) := by
        refine pq_of 10 [(187, []), (191, [])] [] ?_
        show (0 < d ∧ pzV (d - 1) 9 [.inr (.inr (39 : Nat)), .inl (1 : Int)] (A, B4, Y4, K, T) (fun Av1 Bv1 Yv1 Kv1 Tv1 => ((-2147483648 ≤ (Bv1 39 10) ∧ (Bv1 39 10) < 2147483648) ∧ ((Bv1 39 10) ≠ (0 : Int) → pq d 18 191 [some (.inr (.inr (39 : Nat))), some (.inl tp), some (.inl (1 : Int)), some (.inl (Yv1 39 9))] [] (Av1, Bv1, Yv1, Kv1, Tv1) (qV Q)) ∧ ((Bv1 39 10) = (0 : Int) → pq d 18 187 [some (.inr (.inr (39 : Nat))), some (.inl tp), some (.inl (1 : Int)), some (.inl (Yv1 39 9))] [] (Av1, Bv1, Yv1, Kv1, Tv1) (qV Q)))))
        refine ⟨by omega, z_fail h4 hop (by omega) (fun B5 f5 _ => ?_)⟩
        have g := PF_eq f5
        refine ⟨by omega, fun _ => ?_, fun z => absurd z (by omega)⟩
        refine pq_of 3 [(197, [])] [] ?_
        show (0 < d ∧ pzV (d - 1) 11 [.inr (.inr (39 : Nat)), .inl (93 : Int)] (A, B5, Y4, K, T) (fun Av1 Bv1 Yv1 Kv1 Tv1 => pq d 18 197 [some (.inr (.inr (39 : Nat))), some (.inl tp), some (.inl (1 : Int)), some (.inl (Y4 39 9))] [] (Av1, Bv1, Yv1, Kv1, Tv1) (qV Q)))
        exact ⟨by omega, f_must (by omega) f5 (by omega) (fun B6 f6 => j197f B6 Y4 _ _ _ f6)⟩
      refine pq_of 14 [(169, [3]), (174, [3])] [] ?_
      show ((-2147483648 ≤ (B4 39 6) ∧ (B4 39 6) < 2147483648) ∧ (-2147483648 ≤ (2 : Int) ∧ (2 : Int) < 2147483648) ∧ ((B4 39 6) ≠ (2 : Int) → pq d 18 169 [some (.inr (.inr (39 : Nat))), some (.inl tp), some (.inl (1 : Int)), none] [] (A, B4, Y4, K, T) (qV Q)) ∧ ((B4 39 6) = (2 : Int) → ((-9223372036854775808 ≤ (Y4 39 9) ∧ (Y4 39 9) < 9223372036854775808) ∧ (-9223372036854775808 ≤ (1 : Int) ∧ (1 : Int) < 9223372036854775808) ∧ ((Y4 39 9) < (1 : Int) → ((-2147483648 ≤ (-1 : Int) ∧ (-1 : Int) < 2147483648) ∧ ((-1 : Int) < (0 : Int) → pq d 18 169 [some (.inr (.inr (39 : Nat))), some (.inl tp), some (.inl (1 : Int)), none] [] (A, B4, Y4, K, T) (qV Q)) ∧ ((0 : Int) ≤ (-1 : Int) → ((-9223372036854775808 ≤ (Y4 39 9) ∧ (Y4 39 9) < 9223372036854775808) ∧ (-9223372036854775808 ≤ (64 : Int) ∧ (64 : Int) < 9223372036854775808) ∧ ((Y4 39 9) < (64 : Int) → ((-2147483648 ≤ (-1 : Int) ∧ (-1 : Int) < 2147483648) ∧ ((-1 : Int) ≤ (0 : Int) → pq d 18 174 [some (.inr (.inr (39 : Nat))), some (.inl tp), some (.inl (1 : Int)), none] [] (A, B4, Y4, K, T) (qV Q)) ∧ ((0 : Int) < (-1 : Int) → pq d 18 169 [some (.inr (.inr (39 : Nat))), some (.inl tp), some (.inl (1 : Int)), none] [] (A, B4, Y4, K, T) (qV Q)))) ∧ ((Y4 39 9) = (64 : Int) → ((-2147483648 ≤ (0 : Int) ∧ (0 : Int) < 2147483648) ∧ ((0 : Int) ≤ (0 : Int) → pq d 18 174 [some (.inr (.inr (39 : Nat))), some (.inl tp), some (.inl (1 : Int)), none] [] (A, B4, Y4, K, T) (qV Q)) ∧ ((0 : Int) < (0 : Int) → pq d 18 169 [some (.inr (.inr (39 : Nat))), some (.inl tp), some (.inl (1 : Int)), none] [] (A, B4, Y4, K, T) (qV Q)))) ∧ ((64 : Int) < (Y4 39 9) → ((-2147483648 ≤ (1 : Int) ∧ (1 : Int) < 2147483648) ∧ ((1 : Int) ≤ (0 : Int) → pq d 18 174 [some (.inr (.inr (39 : Nat))), some (.inl tp), some (.inl (1 : Int)), none] [] (A, B4, Y4, K, T) (qV Q)) ∧ ((0 : Int) < (1 : Int) → pq d 18 169 [some (.inr (.inr (39 : Nat))), some (.inl tp), some (.inl (1 : Int)), none] [] (A, B4, Y4, K, T) (qV Q)))))))) ∧ ((Y4 39 9) = (1 : Int) → ((-2147483648 ≤ (0 : Int) ∧ (0 : Int) < 2147483648) ∧ ((0 : Int) < (0 : Int) → pq d 18 169 [some (.inr (.inr (39 : Nat))), some (.inl tp), some (.inl (1 : Int)), none] [] (A, B4, Y4, K, T) (qV Q)) ∧ ((0 : Int) ≤ (0 : Int) → ((-9223372036854775808 ≤ (Y4 39 9) ∧ (Y4 39 9) < 9223372036854775808) ∧ (-9223372036854775808 ≤ (64 : Int) ∧ (64 : Int) < 9223372036854775808) ∧ ((Y4 39 9) < (64 : Int) → ((-2147483648 ≤ (-1 : Int) ∧ (-1 : Int) < 2147483648) ∧ ((-1 : Int) ≤ (0 : Int) → pq d 18 174 [some (.inr (.inr (39 : Nat))), some (.inl tp), some (.inl (1 : Int)), none] [] (A, B4, Y4, K, T) (qV Q)) ∧ ((0 : Int) < (-1 : Int) → pq d 18 169 [some (.inr (.inr (39 : Nat))), some (.inl tp), some (.inl (1 : Int)), none] [] (A, B4, Y4, K, T) (qV Q)))) ∧ ((Y4 39 9) = (64 : Int) → ((-2147483648 ≤ (0 : Int) ∧ (0 : Int) < 2147483648) ∧ ((0 : Int) ≤ (0 : Int) → pq d 18 174 [some (.inr (.inr (39 : Nat))), some (.inl tp), some (.inl (1 : Int)), none] [] (A, B4, Y4, K, T) (qV Q)) ∧ ((0 : Int) < (0 : Int) → pq d 18 169 [some (.inr (.inr (39 : Nat))), some (.inl tp), some (.inl (1 : Int)), none] [] (A, B4, Y4, K, T) (qV Q)))) ∧ ((64 : Int) < (Y4 39 9) → ((-2147483648 ≤ (1 : Int) ∧ (1 : Int) < 2147483648) ∧ ((1 : Int) ≤ (0 : Int) → pq d 18 174 [some (.inr (.inr (39 : Nat))), some (.inl tp), some (.inl (1 : Int)), none] [] (A, B4, Y4, K, T) (qV Q)) ∧ ((0 : Int) < (1 : Int) → pq d 18 169 [some (.inr (.inr (39 : Nat))), some (.inl tp), some (.inl (1 : Int)), none] [] (A, B4, Y4, K, T) (qV Q)))))))) ∧ ((1 : Int) < (Y4 39 9) → ((-2147483648 ≤ (1 : Int) ∧ (1 : Int) < 2147483648) ∧ ((1 : Int) < (0 : Int) → pq d 18 169 [some (.inr (.inr (39 : Nat))), some (.inl tp), some (.inl (1 : Int)), none] [] (A, B4, Y4, K, T) (qV Q)) ∧ ((0 : Int) ≤ (1 : Int) → ((-9223372036854775808 ≤ (Y4 39 9) ∧ (Y4 39 9) < 9223372036854775808) ∧ (-9223372036854775808 ≤ (64 : Int) ∧ (64 : Int) < 9223372036854775808) ∧ ((Y4 39 9) < (64 : Int) → ((-2147483648 ≤ (-1 : Int) ∧ (-1 : Int) < 2147483648) ∧ ((-1 : Int) ≤ (0 : Int) → pq d 18 174 [some (.inr (.inr (39 : Nat))), some (.inl tp), some (.inl (1 : Int)), none] [] (A, B4, Y4, K, T) (qV Q)) ∧ ((0 : Int) < (-1 : Int) → pq d 18 169 [some (.inr (.inr (39 : Nat))), some (.inl tp), some (.inl (1 : Int)), none] [] (A, B4, Y4, K, T) (qV Q)))) ∧ ((Y4 39 9) = (64 : Int) → ((-2147483648 ≤ (0 : Int) ∧ (0 : Int) < 2147483648) ∧ ((0 : Int) ≤ (0 : Int) → pq d 18 174 [some (.inr (.inr (39 : Nat))), some (.inl tp), some (.inl (1 : Int)), none] [] (A, B4, Y4, K, T) (qV Q)) ∧ ((0 : Int) < (0 : Int) → pq d 18 169 [some (.inr (.inr (39 : Nat))), some (.inl tp), some (.inl (1 : Int)), none] [] (A, B4, Y4, K, T) (qV Q)))) ∧ ((64 : Int) < (Y4 39 9) → ((-2147483648 ≤ (1 : Int) ∧ (1 : Int) < 2147483648) ∧ ((1 : Int) ≤ (0 : Int) → pq d 18 174 [some (.inr (.inr (39 : Nat))), some (.inl tp), some (.inl (1 : Int)), none] [] (A, B4, Y4, K, T) (qV Q)) ∧ ((0 : Int) < (1 : Int) → pq d 18 169 [some (.inr (.inr (39 : Nat))), some (.inl tp), some (.inl (1 : Int)), none] [] (A, B4, Y4, K, T) (qV Q)))))))))))
      refine ⟨by omega, by omega, fun _ => j169, fun _ => ⟨⟨y1, y2⟩, by omega, fun w => ⟨by omega, fun _ => j169, fun w2 => absurd w2 (by omega)⟩, fun w => ⟨by omega, fun w2 => absurd w2 (by omega), fun _ => ?_⟩, fun w => ⟨by omega, fun w2 => absurd w2 (by omega), fun _ => ?_⟩⟩⟩
      · exact ⟨⟨y1, y2⟩, by omega, fun w3 => ⟨by omega, fun _ => j174 (by omega) (by omega), fun w4 => absurd w4 (by omega)⟩, fun w3 => ⟨by omega, fun _ => j174 (by omega) (by omega), fun w4 => absurd w4 (by omega)⟩, fun w3 => ⟨by omega, fun w4 => absurd w4 (by omega), fun _ => j169⟩⟩
      · exact ⟨⟨y1, y2⟩, by omega, fun w3 => ⟨by omega, fun _ => j174 (by omega) (by omega), fun w4 => absurd w4 (by omega)⟩, fun w3 => ⟨by omega, fun _ => j174 (by omega) (by omega), fun w4 => absurd w4 (by omega)⟩, fun w3 => ⟨by omega, fun w4 => absurd w4 (by omega), fun _ => j169⟩⟩
    refine pq_of 7 [(24, [])] [] ?_
    show ((-2147483648 ≤ (B1 39 6) ∧ (B1 39 6) < 2147483648) ∧ (-2147483648 ≤ (3 : Int) ∧ (3 : Int) < 2147483648) ∧ ((B1 39 6) = (3 : Int) → pq d 18 24 [some (.inr (.inr (39 : Nat))), none, none, none] [] (A, B1, Y1, K, T) (qV Q)) ∧ ((B1 39 6) ≠ (3 : Int) → (0 < d ∧ pzV (d - 1) 9 [.inr (.inr (39 : Nat)), .inl (1 : Int)] (A, B1, Y1, K, T) (fun Av1 Bv1 Yv1 Kv1 Tv1 => pq d 18 24 [some (.inr (.inr (39 : Nat))), none, none, none] [] (Av1, Bv1, Yv1, Kv1, Tv1) (qV Q)))))
    exact ⟨by omega, by omega, fun z => j24 (by omega), fun z => ⟨by omega, z_fail h1 hop (by omega) (fun B2 f2 _ => j24f B2 Y1 f2)⟩⟩
end DCL
