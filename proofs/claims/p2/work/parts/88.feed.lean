/-! feed, over the invariants -/
theorem nI_zi (b : Nat) : nI b = Int32.ofInt (b : Int) := Int32.ofInt_eq_ofNat.symm
theorem nI_ti {b : Nat} (h : b < 2147483648) : (nI b).toInt = (b : Int) := by
  rw [nI_zi, zi_to (by omega) (by omega)]
section FZ
variable {A B Y : zF} {K : Nat} {T : zT} {sz v n : Int} {N d : Nat} {Q : Option Value → pm_H → Prop}
theorem zrd_lo {h : zh} {i : Nat} (hi : i < 39) (j : Nat) : zrd h i j = h.1 i j := by
  unfold zrd
  rw [show Nat.blt i 39 = true from Nat.ble_eq_true_of_le hi]
  rfl
theorem zrd_hi {h : zh} {i : Nat} (hi : 39 ≤ i) (j : Nat) : zrd h i j = h.2.1 i j := by
  unfold zrd
  rw [show Nat.blt i 39 = false from by
    cases e : Nat.blt i 39 with
    | false => rfl
    | true => exact absurd (pm_blt e) (by omega)]
  rfl
/-- the class's feed -/
theorem z_feedC (hI : XI 0 sz A K T) (hN : N < 2 ^ 64) (hv : Int64.ofInt v = lN N)
    (q0 : ¬ fd_B N (Int32.ofInt n) sz.toNat → Q (some (.int (Int32.ofInt 0))) (zc (A, B, Y, K, T)))
    (q1 : ∀ (m : Nat) (A' : zF), m ≤ 8 → Int32.ofInt n = nI m → fd_B N (Int32.ofInt n) sz.toNat → XI 0 ((sz.toNat + m : Nat) : Int) A' K T → Q (some (.int (Int32.ofInt 1))) (zc (A', B, Y, K, T))) : px (d + 1) 152 0 (lv_args 0 [.ref 0, .long (Int64.ofInt v), .int (Int32.ofInt n)]) [] (zc (A, B, Y, K, T)) Q := by
  have hs := XI_sz hI
  have hr := XI_r_0_1 hI
  rw [hs] at hr
  rw [hv]
  refine fd_153 (I := fun i j => Int32.ofInt (zrd (A, B, Y, K, T) i j)) (J := fun i j => Int64.ofInt (Y i j)) (K := some K) (T := T) (l := sz.toNat) hN (by omega) ?_ q0 ?_
  · show Int32.ofInt (zrd (A, B, Y, K, T) 0 1) = _
    rw [zrd_lo (by omega), nI_zi]
    show Int32.ofInt (A 0 1) = _
    rw [hs, Int.toNat_of_nonneg hr.1]
  · intro m I' hm hB e1 hF
    obtain ⟨f1, f2, f3⟩ := hF
    have hB2 := hB
    obtain ⟨m2, em, b1, b8, b3, -⟩ := hB2
    have em2 : m2 = m % 4294967296 := by
      rw [hm] at em
      have := congrArg (fun t : Int32 => t.toBitVec.toNat) em
      have e5 : (nI m).toBitVec.toNat = m % 2 ^ 32 := by show (BitVec.ofNat 32 m).toNat = _; rw [BitVec.toNat_ofNat]
      have e6 : (nI m2).toBitVec.toNat = m2 % 2 ^ 32 := by show (BitVec.ofNat 32 m2).toNat = _; rw [BitVec.toNat_ofNat]
      have e7 : (nI m).toBitVec.toNat = (nI m2).toBitVec.toNat := this
      rw [e5, e6] at e7
      omega
    have e1' : I' 0 1 = nI (sz.toNat + m2) := by
      rw [e1, ← nI_add, ← hm, em, nI_add]
    have hch : ∀ j, 0 ≤ (I' 1 j).toInt ∧ (I' 1 j).toInt ≤ 65535 := by
      intro j
      rcases f3 j with e | ⟨b, hb, e⟩
      · rw [e]
        show 0 ≤ (Int32.ofInt (zrd (A, B, Y, K, T) 1 j)).toInt ∧ (Int32.ofInt (zrd (A, B, Y, K, T) 1 j)).toInt ≤ 65535
        rw [zrd_lo (by omega)]
        have r1 : 0 ≤ A 1 j ∧ A 1 j ≤ 65535 := XI_r_1 hI j
        show 0 ≤ (Int32.ofInt (A 1 j)).toInt ∧ (Int32.ofInt (A 1 j)).toInt ≤ 65535
        rw [zi_to (by omega) (by omega)]
        exact r1
      · rw [e, nI_ti (by omega)]
        omega
    have hA' : XI 0 ((sz.toNat + m2 : Nat) : Int) (zu (zua A 1 (fun j => (I' 1 j).toInt)) 0 1 ((sz.toNat + m2 : Nat) : Int)) K T := XI_len (XI_a hI hch rfl rfl) (by omega) (by omega)
    have hheap : pg I' (fun i j => Int64.ofInt (Y i j)) (some K) T = zc (zu (zua A 1 (fun j => (I' 1 j).toInt)) 0 1 ((sz.toNat + m2 : Nat) : Int), B, Y, K, T) := by
      have : I' = fun i j => Int32.ofInt (zrd (zu (zua A 1 (fun j => (I' 1 j).toInt)) 0 1 ((sz.toNat + m2 : Nat) : Int), B, Y, K, T) i j) := by
        funext i j
        by_cases h0 : i = 0
        · subst h0
          rw [zrd_lo (by omega)]
          show _ = Int32.ofInt (zu (zua A 1 (fun j => (I' 1 j).toInt)) 0 1 ((sz.toNat + m2 : Nat) : Int) 0 j)
          rw [zu_ap]
          by_cases h1 : j = 1
          · subst h1
            rw [if_pos ⟨rfl, rfl⟩, e1', nI_zi]
          · rw [if_neg (fun q => h1 q.2), zua_ap, if_neg (by omega), f2 j h1]
            show Int32.ofInt (zrd (A, B, Y, K, T) 0 j) = _
            rw [zrd_lo (by omega)]
        · by_cases h1 : i = 1
          · subst h1
            rw [zrd_lo (by omega)]
            show _ = Int32.ofInt (zu (zua A 1 (fun j => (I' 1 j).toInt)) 0 1 ((sz.toNat + m2 : Nat) : Int) 1 j)
            rw [zu_ap, if_neg (by omega), zua_ap, if_pos rfl, Int32.ofInt_toInt]
          · rw [f1 i h0 h1]
            show Int32.ofInt (zrd (A, B, Y, K, T) i j) = _
            rcases Nat.lt_or_ge i 39 with h39 | h39
            · rw [zrd_lo h39, zrd_lo h39]
              show _ = Int32.ofInt (zu (zua A 1 (fun j => (I' 1 j).toInt)) 0 1 ((sz.toNat + m2 : Nat) : Int) i j)
              rw [zu_ap, if_neg (by omega), zua_ap, if_neg h1]
            · rw [zrd_hi h39, zrd_hi h39]
      conv => lhs; rw [this]
      rfl
    rw [hheap]
    exact q1 m2 _ b8 em hB hA'
theorem MI_feed {g : Nat → Int} {sz' : Int} (h : MI B Y sz) (hg : ∀ j, 0 ≤ g j ∧ g j < 65536) (h0 : 0 ≤ sz' ∧ sz' ≤ 3000) : MI (zu (zu (zua B 40 g) 39 3 sz') 39 0 v) Y sz' := by
  obtain ⟨hY, h⟩ := h
  refine ⟨hY, ?_⟩
  have hmi : mi B → mi (zu (zu (zua B 40 g) 39 3 sz') 39 0 v) := fun q => ⟨hg, q.2⟩
  rcases h with ⟨a1, a2, a3, a4, a5, a6, a7⟩ | ⟨⟨a1, a2, a3, a4, a5, a6, a7, a8⟩, a9⟩
  · exact Or.inl ⟨hmi a1, a2, ⟨rfl, h0⟩, a4, a5, a6, a7⟩
  · exact Or.inr ⟨⟨hmi a1, a2, ⟨rfl, h0⟩, a4, a5, a6, a7, a8⟩, a9⟩
/-- the model's feed -/
theorem z_feedM (hM : MI B Y sz) (hN : N < 2 ^ 64) (hv : Int64.ofInt v = lN N)
    (q0 : ∀ B', ¬ fd_B N (Int32.ofInt n) sz.toNat → MI B' Y sz → Q (some (.int (Int32.ofInt 0))) (zc (A, B', Y, K, T)))
    (q1 : ∀ (m : Nat) (B' : zF), m ≤ 8 → Int32.ofInt n = nI m → fd_B N (Int32.ofInt n) sz.toNat → MI B' Y ((sz.toNat + m : Nat) : Int) → Q (some (.int (Int32.ofInt 1))) (zc (A, B', Y, K, T))) : px d 1 0 (lv_args 0 [.ref 39, .long (Int64.ofInt v), .int (Int32.ofInt n)]) [] (zc (A, B, Y, K, T)) Q := by
  obtain ⟨k1, k2, k3, hs, hr⟩ := MI_mi hM
  rw [hv]
  have hch : ∀ I', fm_fr (fun i j => Int32.ofInt (zrd (A, B, Y, K, T) i j)) I' → ∀ j, 0 ≤ (I' 40 j).toInt ∧ (I' 40 j).toInt < 65536 := by
    rintro I' ⟨f1, f2, f3⟩ j
    rcases f3 j with e | ⟨b, hb, e⟩
    · rw [e]
      show 0 ≤ (Int32.ofInt (zrd (A, B, Y, K, T) 40 j)).toInt ∧ (Int32.ofInt (zrd (A, B, Y, K, T) 40 j)).toInt < 65536
      rw [zrd_hi (by omega)]
      have r1 : 0 ≤ B 40 j ∧ B 40 j < 65536 := k1.1 j
      show 0 ≤ (Int32.ofInt (B 40 j)).toInt ∧ (Int32.ofInt (B 40 j)).toInt < 65536
      rw [zi_to (by omega) (by omega)]
      exact r1
    · rw [e, nI_ti (by omega)]
      omega
  have hheap : ∀ (I' : Nat → Nat → Int32) (l : Nat), fm_fr (fun i j => Int32.ofInt (zrd (A, B, Y, K, T) i j)) I' → I' 39 3 = nI l → pg I' (fun i j => Int64.ofInt (Y i j)) (some K) T = zc (A, zu (zu (zua B 40 (fun j => (I' 40 j).toInt)) 39 3 (l : Int)) 39 0 (I' 39 0).toInt, Y, K, T) := by
    rintro I' l ⟨f1, f2, f3⟩ e3
    have : I' = fun i j => Int32.ofInt (zrd (A, zu (zu (zua B 40 (fun j => (I' 40 j).toInt)) 39 3 (l : Int)) 39 0 (I' 39 0).toInt, Y, K, T) i j) := by
      funext i j
      rcases Nat.lt_or_ge i 39 with h39 | h39
      · rw [zrd_lo h39, f1 i (by omega) (by omega)]
        show Int32.ofInt (zrd (A, B, Y, K, T) i j) = _
        rw [zrd_lo h39]
      · rw [zrd_hi h39]
        show _ = Int32.ofInt (zu (zu (zua B 40 (fun j => (I' 40 j).toInt)) 39 3 (l : Int)) 39 0 (I' 39 0).toInt i j)
        rw [zu_ap]
        by_cases ha : i = 39 ∧ j = 0
        · rw [if_pos ha, Int32.ofInt_toInt, ha.1, ha.2]
        · rw [if_neg ha, zu_ap]
          by_cases hb : i = 39 ∧ j = 3
          · rw [if_pos hb, hb.1, hb.2, e3, nI_zi]
          · rw [if_neg hb, zua_ap]
            by_cases hc : i = 40
            · subst hc
              rw [if_pos rfl, Int32.ofInt_toInt]
            · rw [if_neg hc]
              by_cases hd : i = 39
              · subst hd
                rw [f2 j (fun z => ha ⟨rfl, z⟩) (fun z => hb ⟨rfl, z⟩)]
                show Int32.ofInt (zrd (A, B, Y, K, T) 39 j) = _
                rw [zrd_hi (by omega)]
              · rw [f1 i hd hc]
                show Int32.ofInt (zrd (A, B, Y, K, T) i j) = _
                rw [zrd_hi h39]
    conv => lhs; rw [this]
    rfl
  refine fm_2 (I := fun i j => Int32.ofInt (zrd (A, B, Y, K, T) i j)) (J := fun i j => Int64.ofInt (Y i j)) (K := some K) (T := T) (l := sz.toNat) (by omega) ?_ ?_ ?_
  · show Int32.ofInt (zrd (A, B, Y, K, T) 39 3) = _
    rw [zrd_hi (by omega), nI_zi]
    show Int32.ofInt (B 39 3) = _
    rw [hs, Int.toNat_of_nonneg hr.1]
  · intro I' hB e3 hF
    rw [hheap I' sz.toNat hF e3, Int.toNat_of_nonneg hr.1]
    exact q0 _ hB (MI_feed hM (hch I' hF) hr)
  · intro m I' hm hB e1 hF
    have hB2 := hB
    obtain ⟨m2, em, b1, b8, b3, -⟩ := hB2
    have e1' : I' 39 3 = nI (sz.toNat + m2) := by
      rw [e1, ← nI_add, ← hm, em, nI_add]
    rw [hheap I' (sz.toNat + m2) hF e1']
    exact q1 m2 _ b8 em hB (MI_feed hM (hch I' hF) ⟨by omega, by omega⟩)
theorem MI_Y {Y' : zF} (h : MI B Y sz) (hY : ∀ i j, i ≠ 74 → Y' i j = Y i j) : MI B Y' sz := by
  refine ⟨?_, h.2⟩
  have h1 := h.1
  unfold mY at h1 ⊢
  rw [hY 39 9 (by decide)]
  exact h1
end FZ
