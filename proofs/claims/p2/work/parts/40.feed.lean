theorem wb_tb (n : Nat) : (lN n).toBitVec = BitVec.ofNat 64 n := rfl
theorem wb_inj {a b : Int64} (h : a.toBitVec = b.toBitVec) : a = b := Int64.toBitVec_inj.mp h
theorem wb_tn {n : Nat} (h : n < 2 ^ 64) : (lN n).toBitVec.toNat = n := by rw [wb_tb, BitVec.toNat_ofNat, Nat.mod_eq_of_lt h]
theorem wb_of (x : Int64) : ∃ n, n < 2 ^ 64 ∧ x = lN n := ⟨x.toBitVec.toNat, x.toBitVec.isLt, wb_inj (by rw [wb_tb]; simp)⟩
theorem wb_of32 (x : Int32) : ∃ n, n < 2 ^ 32 ∧ x = nI n := ⟨x.toBitVec.toNat, x.toBitVec.isLt, Int32.toBitVec_inj.mp (by show _ = BitVec.ofNat 32 _; simp)⟩
theorem wb_c : ∀ k, k < 64 → ((nI k).toInt64 &&& 63) = lN k := by decide +kernel
theorem wb_cu : ∀ k, k < 64 → ((nI k).toInt64.toUInt64 &&& Int64.toUInt64 63) = UInt64.ofNat k := by decide +kernel
theorem wb_sm : ∀ k, k < 64 → (BitVec.ofNat 64 k).smod 64 = BitVec.ofNat 64 k := by decide +kernel
theorem wb_pw {a b : Nat} (h : a ≤ b) : 2 ^ b = 2 ^ a * 2 ^ (b - a) := by rw [← Nat.pow_add]; congr 1; omega
theorem wb_lt2 {a b : Nat} (h : a < b) : 2 ^ a < 2 ^ b := Nat.pow_lt_pow_right (by decide) h
theorem wb_mod (n : Nat) : lN n = lN (n % 2 ^ 64) := wb_inj (by rw [wb_tb, wb_tb]; apply BitVec.eq_of_toNat_eq; rw [BitVec.toNat_ofNat, BitVec.toNat_ofNat, Nat.mod_mod])
theorem wb_shr {n k : Nat} (hn : n < 2 ^ 64) (hk : k < 64) : ((lN n).toUInt64 >>> ((nI k).toInt64.toUInt64 &&& Int64.toUInt64 63)).toInt64 = lN (n / 2 ^ k) := by
  rw [wb_cu k hk]
  apply wb_inj
  apply BitVec.eq_of_toNat_eq
  show ((lN n).toUInt64 >>> UInt64.ofNat k).toNat = (BitVec.ofNat 64 _).toNat
  have h1 : (UInt64.ofNat k).toNat = k := by
    show (BitVec.ofNat 64 k).toNat = k
    rw [BitVec.toNat_ofNat, Nat.mod_eq_of_lt (by omega)]
  have h2 : (lN n).toUInt64.toNat = n := wb_tn hn
  rw [UInt64.toNat_shiftRight, h1, h2, Nat.mod_eq_of_lt hk, Nat.shiftRight_eq_div_pow, BitVec.toNat_ofNat, Nat.mod_eq_of_lt (Nat.lt_of_le_of_lt (Nat.div_le_self _ _) hn)]
theorem wb_shl (n : Nat) {k : Nat} (hk : k < 64) : lN n <<< ((nI k).toInt64 &&& 63) = lN (n * 2 ^ k) := by
  rw [wb_c k hk]
  apply wb_inj
  rw [Int64.toBitVec_shiftLeft, wb_tb, wb_tb, wb_tb, wb_sm k hk]
  apply BitVec.eq_of_toNat_eq
  rw [BitVec.shiftLeft_eq', BitVec.toNat_shiftLeft, BitVec.toNat_ofNat, BitVec.toNat_ofNat, BitVec.toNat_ofNat, Nat.mod_eq_of_lt (show k < 2 ^ 64 by omega), Nat.shiftLeft_eq, Nat.mul_mod, Nat.mod_mod, ← Nat.mul_mod]
theorem wb_and {a b : Nat} (ha : a < 2 ^ 64) (hb : b < 2 ^ 64) : lN a &&& lN b = lN (a &&& b) := by
  apply wb_inj
  rw [Int64.toBitVec_and, wb_tb, wb_tb, wb_tb]
  apply BitVec.eq_of_toNat_eq
  rw [BitVec.toNat_and, BitVec.toNat_ofNat, BitVec.toNat_ofNat, BitVec.toNat_ofNat, Nat.mod_eq_of_lt ha, Nat.mod_eq_of_lt hb, Nat.mod_eq_of_lt (Nat.and_lt_two_pow _ hb)]
theorem wb_or {a b : Nat} (ha : a < 2 ^ 64) (hb : b < 2 ^ 64) : lN a ||| lN b = lN (a ||| b) := by
  apply wb_inj
  rw [Int64.toBitVec_or, wb_tb, wb_tb, wb_tb]
  apply BitVec.eq_of_toNat_eq
  rw [BitVec.toNat_or, BitVec.toNat_ofNat, BitVec.toNat_ofNat, BitVec.toNat_ofNat, Nat.mod_eq_of_lt ha, Nat.mod_eq_of_lt hb, Nat.mod_eq_of_lt (Nat.or_lt_two_pow ha hb)]
theorem wb_mask {n k : Nat} (hn : n < 2 ^ 64) (hk : k < 64) : lN n &&& lN (2 ^ k - 1) = lN (n % 2 ^ k) := by
  rw [wb_and hn (by have := wb_lt2 hk; omega), Nat.and_two_pow_sub_one_eq_mod]
/-! feed, the class's and the model's -/
def fd_b (N j : Nat) : Nat := N / 2 ^ (8 * j) % 256
theorem fd_bl (N j : Nat) : fd_b N j < 256 := Nat.mod_lt _ (by decide)
def fd_okb (b : Nat) : Bool := decide (b = 10) || (!decide (b < 32) && !decide (126 < b))
theorem fd_m8 : ∀ j, j < 8 → (Int8.ofInt 8).toInt32 * nI j = nI (8 * j) := by decide +kernel
theorem fd_tb {b : Nat} (h : b < 2 ^ 32) : (nI b).toBitVec.toNat = b := by
  show (BitVec.ofNat 32 b).toNat = b
  rw [BitVec.toNat_ofNat, Nat.mod_eq_of_lt h]
theorem fd_c2 {b : Nat} (h : b < 65536) : ((nI b).toUInt32 % 65536).toInt32 = nI b := by
  rw [pk_char, fd_tb (by omega), Nat.mod_eq_of_lt h]
theorem fd_vc {b : Nat} (h : b < 65536) : vp_nar .char (nI b) = nI b := by
  have := pk_vc (nI b)
  rwa [fd_c2 h] at this
theorem fd_cl {N j : Nat} (hN : N < 2 ^ 64) (hj : j < 8) : ((((lN N).toUInt64 >>> (((Int8.ofInt 8).toInt32 * nI j).toInt64.toUInt64 &&& Int64.toUInt64 63)).toInt64 &&& lN 255).toInt32.toUInt32 % 65536).toInt32 = nI (fd_b N j) := by
  rw [fd_m8 j hj, wb_shr hN (by omega), show lN 255 = lN (2 ^ 8 - 1) from rfl, wb_mask (Nat.lt_of_le_of_lt (Nat.div_le_self _ _) hN) (by decide), lN_i]
  exact fd_c2 (by have := fd_bl N j; unfold fd_b at this; omega)
theorem fd_ss {N s : Nat} (hs : s ≤ 56) : (BitVec.ofNat 64 N).sshiftRight s &&& BitVec.ofNat 64 255 = BitVec.ofNat 64 (N / 2 ^ s % 256) := by
  apply BitVec.eq_of_getLsbD_eq
  intro i hi
  rw [BitVec.getLsbD_and, BitVec.getLsbD_sshiftRight, BitVec.getLsbD_ofNat, BitVec.getLsbD_ofNat, BitVec.getLsbD_ofNat, show (255 : Nat) = 2 ^ 8 - 1 from rfl, Nat.testBit_two_pow_sub_one, show (256 : Nat) = 2 ^ 8 from rfl, Nat.testBit_mod_two_pow, Nat.testBit_div_two_pow]
  by_cases h8 : i < 8
  · have h1 : s + i < 64 := by omega
    have h2 : i + s = s + i := Nat.add_comm _ _
    simp [h8, h1, hi, h2, show ¬ 64 ≤ i by omega]
  · simp [h8]
theorem fd_md {N j : Nat} (hj : j < 8) : (lN N >>> (((Int8.ofInt 8).toInt32 * nI j).toInt64 &&& 63)) &&& lN 255 = lN (fd_b N j) := by
  rw [fd_m8 j hj, wb_c _ (by omega)]
  apply wb_inj
  rw [Int64.toBitVec_and, Int64.toBitVec_shiftRight, wb_tb, wb_tb, wb_tb, wb_tb, wb_sm _ (by omega)]
  show (BitVec.ofNat 64 N).sshiftRight (BitVec.ofNat 64 (8 * j)).toNat &&& _ = _
  rw [BitVec.toNat_ofNat, Nat.mod_eq_of_lt (by omega)]
  exact fd_ss (by omega)
theorem pb_eq {a b : Nat} (ha : a < 2 ^ 31) (hb : b < 2 ^ 31) : pm_c2 .eq (nI a) (nI b) = decide (a = b) := decide_eq_decide.mpr (nI_eq ha hb)
theorem pb_lt {a b : Nat} (ha : a < 2 ^ 31) (hb : b < 2 ^ 31) : pm_c2 .lt (nI a) (nI b) = decide (a < b) := decide_eq_decide.mpr (nI_ltI ha hb)
theorem pb_ge {a b : Nat} (ha : a < 2 ^ 31) (hb : b < 2 ^ 31) : pm_c2 .ge (nI a) (nI b) = decide (b ≤ a) := decide_eq_decide.mpr (nI_leI hb ha)
theorem pb_gt {a b : Nat} (ha : a < 2 ^ 31) (hb : b < 2 ^ 31) : pm_c2 .gt (nI a) (nI b) = decide (b < a) := decide_eq_decide.mpr (nI_ltI hb ha)
theorem pb_le {a b : Nat} (ha : a < 2 ^ 31) (hb : b < 2 ^ 31) : pm_c2 .le (nI a) (nI b) = decide (a ≤ b) := decide_eq_decide.mpr (nI_leI ha hb)
theorem pb_cmp {a b : Nat} (ha : a < 2 ^ 31) (hb : b < 2 ^ 31) : lg_cmp (lN a) (lN b) = if b < a then 1 else if a = b then 0 else -1 := by
  unfold lg_cmp
  have h1 : (lN a > lN b) ↔ b < a := lN_lt hb ha
  have h2 : (lN a = lN b) ↔ a = b := lN_eq ha hb
  simp only [h1, h2]
theorem pb_leq {a b : Nat} (ha : a < 2 ^ 31) (hb : b < 2 ^ 31) : pm_c0 .eq (lg_cmp (lN a) (lN b)) = decide (a = b) := by
  rw [pb_cmp ha hb]
  by_cases h1 : b < a
  · rw [if_pos h1, decide_eq_false (show ¬ a = b by omega)]; rfl
  · by_cases h2 : a = b
    · rw [if_neg h1, if_pos h2, decide_eq_true h2]; rfl
    · rw [if_neg h1, if_neg h2, decide_eq_false h2]; rfl
theorem pb_lle {a b : Nat} (ha : a < 2 ^ 31) (hb : b < 2 ^ 31) : pm_c0 .le (lg_cmp (lN a) (lN b)) = decide (a ≤ b) := by
  rw [pb_cmp ha hb]
  by_cases h1 : b < a
  · rw [if_pos h1, decide_eq_false (show ¬ a ≤ b by omega)]; rfl
  · rw [if_neg h1, decide_eq_true (show a ≤ b by omega)]
    by_cases h2 : a = b
    · rw [if_pos h2]; rfl
    · rw [if_neg h2]; rfl
theorem pb_lge {a b : Nat} (ha : a < 2 ^ 31) (hb : b < 2 ^ 31) : pm_c0 .ge (lg_cmp (lN a) (lN b)) = decide (b ≤ a) := by
  rw [pb_cmp ha hb]
  by_cases h1 : b < a
  · rw [if_pos h1, decide_eq_true (show b ≤ a by omega)]; rfl
  · by_cases h2 : a = b
    · rw [if_neg h1, if_pos h2, decide_eq_true (show b ≤ a by omega)]; rfl
    · rw [if_neg h1, if_neg h2, decide_eq_false (show ¬ b ≤ a by omega)]; rfl
theorem pb_inb {a n : Nat} (h : a < n) (hn : n < 2 ^ 31) : pm_inb (nI a) n = true := by
  unfold pm_inb
  rw [decide_eq_false (nI_pos (by omega)), nI_clamp (by omega)]
  exact Nat.ble_eq_true_of_le h
section FD1
variable {d mi pc : Nat} {L : pm_L} {S : List Value} {h : pm_H} {Q : Option Value → pm_H → Prop}
theorem px_rc {x : Int32} (hf : pm_fd (pm_code mi) pc = some .ireturn) (hrt : pm_rt mi = some .char) (hx : vp_nar .char x = x) (q : Q (some (.int x)) h) : px d mi pc L [.int x] h Q := by
  refine px_ret ?_ q
  unfold pm_step
  rw [hf]
  simp only [pm_push, pm_ari, pm_br, pm_sto, pm_read, pm_rd0, pm_cst, pm_write, pm_ret, hrt, if_pos hx]
theorem px_rb {x : Int32} (hf : pm_fd (pm_code mi) pc = some .ireturn) (hrt : pm_rt mi = some .boolean) (hx : x = 0 ∨ x = 1) (q : Q (some (.int x)) h) : px d mi pc L [.int x] h Q := by
  refine px_ret ?_ q
  unfold pm_step
  rw [hf]
  simp only [pm_push, pm_ari, pm_br, pm_sto, pm_read, pm_rd0, pm_cst, pm_write, pm_ret, hrt, if_pos hx]
theorem px_castore {a : Nat} {x j : Int32} (hf : pm_fd (pm_code mi) pc = some .castore) (ha : pm_isA pm_swA a 2 = true) (hj : pm_inb j (pm_sh pm_swA a).2 = true) (q : px d mi (pc + 1) L S (pm_setI h a j.toNatClampNeg (vp_nar .char x)) Q) : px d mi pc L (.int x :: .int j :: .ref a :: S) h Q := by
  refine px_st ?_ q
  unfold pm_step
  rw [hf]
  simp only [pm_push, pm_ari, pm_br, pm_sto, pm_read, pm_rd0, pm_cst, pm_write, ha, hj, Bool.and_self, cond_true, pm_ln]
end FD1
theorem fd_162 {d N j : Nat} {h : pm_H} {Q : Option Value → pm_H → Prop} (hN : N < 2 ^ 64) (hj : j < 8) (q : Q (some (.int (nI (fd_b N j)))) h) : px d 161 0 (lv_args 0 [.long (lN N), .int (nI j)]) [] h Q := by
  refine px_seg 9 (pc' := 12) (L' := lv_args 0 [.long (lN N), .int (nI j)]) (S' := [.int (((((lN N).toUInt64 >>> (((Int8.ofInt 8).toInt32 * nI j).toInt64.toUInt64 &&& Int64.toUInt64 63)).toInt64 &&& lN 255).toInt32.toUInt32 % 65536).toInt32)]) (h' := h) (fun _ => rfl) ?_
  rw [fd_cl hN hj]
  exact px_rc rfl rfl (fd_vc (by have := fd_bl N j; omega)) q
theorem fd_163 {d b : Nat} {h : pm_H} {Q : Option Value → pm_H → Prop} (hb : b < 256) (q : Q (some (.int (bif fd_okb b then 1 else 0))) h) : px d 162 0 (lv_args 0 [.int (nI b)]) [] h Q := by
  refine px_seg 3 (pc' := bif pm_c2 .eq (nI b) (nI 10) then 18 else 6) (L' := [(0, .int (nI b))]) (S' := []) (h' := h) (fun _ => rfl) ?_
  rw [pb_eq (by omega) (by decide)]
  unfold fd_okb at q
  cases h1 : decide (b = 10) with
  | true =>
    rw [h1] at q
    exact px_seg 2 (pc' := 23) (L' := [(0, .int (nI b))]) (S' := [.int 1]) (h' := h) (fun _ => rfl) (px_rb rfl rfl (Or.inr rfl) q)
  | false =>
    rw [h1] at q
    refine px_seg 3 (pc' := bif pm_c2 .lt (nI b) (nI 32) then 22 else 12) (L' := [(0, .int (nI b))]) (S' := []) (h' := h) (fun _ => rfl) ?_
    rw [pb_lt (by omega) (by decide)]
    cases h2 : decide (b < 32) with
    | true =>
      rw [h2] at q
      exact px_seg 1 (pc' := 23) (L' := [(0, .int (nI b))]) (S' := [.int 0]) (h' := h) (fun _ => rfl) (px_rb rfl rfl (Or.inl rfl) q)
    | false =>
      rw [h2] at q
      refine px_seg 3 (pc' := bif pm_c2 .gt (nI b) (nI 126) then 22 else 18) (L' := [(0, .int (nI b))]) (S' := []) (h' := h) (fun _ => rfl) ?_
      rw [pb_gt (by omega) (by decide)]
      cases h3 : decide (126 < b) with
      | true =>
        rw [h3] at q
        exact px_seg 1 (pc' := 23) (L' := [(0, .int (nI b))]) (S' := [.int 0]) (h' := h) (fun _ => rfl) (px_rb rfl rfl (Or.inl rfl) q)
      | false =>
        rw [h3] at q
        exact px_seg 2 (pc' := 23) (L' := [(0, .int (nI b))]) (S' := [.int 1]) (h' := h) (fun _ => rfl) (px_rb rfl rfl (Or.inr rfl) q)
