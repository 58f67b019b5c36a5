/-! The model's parser: its state, and what its small steps do to it -/
def mD (B : zF) : Prop := (0 ≤ (B 39 13) ∧ (B 39 13) ≤ 40) ∧ (0 ≤ (B 39 15) ∧ (B 39 15) ≤ 64 * (B 39 13)) ∧ (∀ k : Nat, (k : Int) < (B 39 13) → (0 ≤ (B 42) k ∧ 0 ≤ (B 43) k ∧ (B 42) k + (B 43) k ≤ 3000) ∧ (0 ≤ (B 44) k ∧ (B 44) k ≤ 64) ∧ 0 ≤ (B 46) k ∧ (B 46) k + (B 44) k ≤ (B 39 15) ∧ (B 46) k + 1 ≤ (B 39 15)) ∧ (∀ j, (B 47) j = 0 ∨ (B 47) j = 1)
def mO (B : zF) : Prop := (0 ≤ (B 39 16) ∧ (B 39 16) ≤ 12) ∧ (∀ k : Nat, (k : Int) < (B 39 16) → 0 ≤ (B 50) k ∧ 0 ≤ (B 51) k ∧ (B 50) k + (B 51) k ≤ 3000) ∧ (∀ j, (B 48) j = 0 ∨ (B 48) j = 1)
def mG (B : zF) : Prop := (0 ≤ (B 39 17) ∧ (B 39 17) ≤ 6) ∧ (∀ k : Nat, k < 6 → 0 ≤ (B 52) k ∧ 0 ≤ (B 53) k ∧ (B 52) k + (B 53) k ≤ 3000) ∧ (∀ j, (B 49) j = 0 ∨ (B 49) j = 1) ∧ (∀ j, (B 57) j = 0 ∨ (B 57) j = 1)
def mX (B : zF) : Prop := (-2147483648 ≤ (B 39 11) ∧ (B 39 11) < 2147483648) ∧ (-2147483648 ≤ (B 39 12) ∧ (B 39 12) < 2147483648) ∧ ((B 39 37) = 0 ∨ (B 39 37) = 1) ∧ ((B 39 42) = 0 ∨ (B 39 42) = 1)
/-- what the parser never touches -/
def FR (B B' : zF) : Prop := (B' 40) = (B 40) ∧ (B' 41) = (B 41) ∧ (B' 61) = (B 61) ∧ (B' 62) = (B 62) ∧ (B' 63) = (B 63) ∧ (B' 64) = (B 64) ∧ (B' 65) = (B 65) ∧ (B' 66) = (B 66) ∧ (B' 67) = (B 67) ∧ (B' 68) = (B 68) ∧ (B' 39 3) = (B 39 3) ∧ (B' 39 4) = (B 39 4) ∧ (B' 39 44) = (B 39 44)
theorem FR_rf (B : zF) : FR B B := ⟨rfl, rfl, rfl, rfl, rfl, rfl, rfl, rfl, rfl, rfl, rfl, rfl, rfl⟩
theorem FR_tr {B B' B'' : zF} (h : FR B B') (g : FR B' B'') : FR B B'' := by
  obtain ⟨a1, a2, a3, a4, a5, a6, a7, a8, a9, a10, a11, a12, a13⟩ := h
  obtain ⟨b1, b2, b3, b4, b5, b6, b7, b8, b9, b10, b11, b12, b13⟩ := g
  exact ⟨b1.trans a1, b2.trans a2, b3.trans a3, b4.trans a4, b5.trans a5, b6.trans a6, b7.trans a7, b8.trans a8, b9.trans a9, b10.trans a10, b11.trans a11, b12.trans a12, b13.trans a13⟩
/-- the tables of names and code stay -/
def SM (B B' : zF) : Prop := B' 42 = B 42 ∧ B' 43 = B 43 ∧ B' 44 = B 44 ∧ B' 45 = B 45 ∧ B' 46 = B 46 ∧ B' 47 = B 47 ∧ B' 48 = B 48 ∧ B' 49 = B 49 ∧ B' 50 = B 50 ∧ B' 51 = B 51 ∧ B' 52 = B 52 ∧ B' 53 = B 53 ∧ B' 54 = B 54 ∧ B' 55 = B 55 ∧ B' 56 = B 56 ∧ B' 57 = B 57 ∧ B' 58 = B 58 ∧ B' 59 = B 59 ∧ B' 60 = B 60
theorem SM_rf (B : zF) : SM B B := ⟨rfl, rfl, rfl, rfl, rfl, rfl, rfl, rfl, rfl, rfl, rfl, rfl, rfl, rfl, rfl, rfl, rfl, rfl, rfl⟩
theorem SM_tr {B B' B'' : zF} (h : SM B B') (g : SM B' B'') : SM B B'' := by
  obtain ⟨a42, a43, a44, a45, a46, a47, a48, a49, a50, a51, a52, a53, a54, a55, a56, a57, a58, a59, a60⟩ := h
  obtain ⟨b42, b43, b44, b45, b46, b47, b48, b49, b50, b51, b52, b53, b54, b55, b56, b57, b58, b59, b60⟩ := g
  exact ⟨b42.trans a42, b43.trans a43, b44.trans a44, b45.trans a45, b46.trans a46, b47.trans a47, b48.trans a48, b49.trans a49, b50.trans a50, b51.trans a51, b52.trans a52, b53.trans a53, b54.trans a54, b55.trans a55, b56.trans a56, b57.trans a57, b58.trans a58, b59.trans a59, b60.trans a60⟩
theorem SM_k {B B' : zF} (h : SM B B') : B' 47 = B 47 ∧ B' 48 = B 48 ∧ B' 49 = B 49 ∧ B' 54 = B 54 ∧ B' 55 = B 55 ∧ B' 58 = B 58 := by
  obtain ⟨a42, a43, a44, a45, a46, a47, a48, a49, a50, a51, a52, a53, a54, a55, a56, a57, a58, a59, a60⟩ := h
  exact ⟨a47, a48, a49, a54, a55, a58⟩
/-- no fault yet -/
def PZ (B0 B Y : zF) (st vs : List zE) (cur op fr fc N F tp ow tk sc tm : Int) (E ht rg bk : Nat → Int) : Prop :=
  FR B0 B ∧ mK B ∧ mY Y ∧ mT B ∧ ((B 39 10) = 0 ∧ (B 39 20) = op ∧ (B 39 7) = fr ∧ (B 39 38) = N ∧ (B 39 17) = F ∧ (B 39 13) = tp ∧ (B 39 16) = ow ∧ (B 39 6) = tk ∧ (B 39 42) = sc ∧ ht N.toNat = cur ∧ fc ≤ (B 39 5)) ∧ mD B ∧ mO B ∧ mG B ∧ mX B ∧ skk B st ∧ CT (B 58) (B 59) N F tp fc tm (B 54) (B 55) (B 56) E (pnd vs) ht rg bk ∧ TD F tp N tm ow (B 58) (B 54) (B 55) ht rg bk vs
/-- a fault was told -/
def PF (B0 B Y : zF) (on tn : Int) : Prop :=
  FR B0 B ∧ mK B ∧ mY Y ∧ mT B ∧ mF B ∧ ((B 39 10) ≠ 0 ∧ (0 ≤ (B 39 38) ∧ (B 39 38) ≤ on) ∧ (0 ≤ (B 39 58) ∧ (B 39 58) ≤ tn ∧ tn ≤ 2000)) ∧ mD B ∧ mO B ∧ mG B ∧ mX B
section ZO
variable {d : Nat} {A B0 B Y : zF} {K : Nat} {T : zT} {st vs : List zE} {cur op fr fc N F tp ow tk sc tm on tn : Int} {E ht rg bk : Nat → Int}
theorem PZ_tk (h : PZ B0 B Y st vs cur op fr fc N F tp ow tk sc tm E ht rg bk) : (0 ≤ fr ∧ fr ≤ 3000) ∧ (tk ≠ 12 → fr < (B 39 5)) ∧ (-2147483648 ≤ tk ∧ tk < 2147483648) ∧ (sc = 0 ∨ sc = 1) ∧ (1 ≤ N ∧ 0 ≤ F ∧ F ≤ 6 ∧ tm ≤ N) ∧ (0 ≤ tp ∧ tp ≤ 40) ∧ (0 ≤ ow ∧ ow ≤ 12) ∧ (0 ≤ cur ∧ cur ≤ fc - E F.toNat) := by
  obtain ⟨-, hK, -, ⟨t1, t2, t3, t4, t5, t6⟩, ⟨f1, rfl, rfl, rfl, rfl, rfl, rfl, rfl, rfl, rfl, f2⟩, hD, hO, -, hX, -, hC, -⟩ := h
  have hk := hK.1
  exact ⟨by omega, t5, t6, hX.2.2.2, hC.1, hD.1, hO.1, CT_cur hC⟩
theorem PZ_eq (h : PZ B0 B Y st vs cur op fr fc N F tp ow tk sc tm E ht rg bk) : (B 39 10) = 0 ∧ (B 39 20) = op ∧ (B 39 7) = fr ∧ (B 39 38) = N ∧ (B 39 17) = F ∧ (B 39 13) = tp ∧ (B 39 16) = ow ∧ (B 39 6) = tk ∧ (B 39 42) = sc ∧ ht N.toNat = cur ∧ fc ≤ (B 39 5) ∧ (B 39 58) = (st.length : Int) := by
  obtain ⟨-, -, -, -, ⟨f1, f2, f3, f4, f5, f6, f7, f8, f9, f10, f11⟩, -, -, -, -, hs, -, -⟩ := h
  exact ⟨f1, f2, f3, f4, f5, f6, f7, f8, f9, f10, f11, hs.1⟩
theorem PZ_mF (h : PZ B0 B Y st vs cur op fr fc N F tp ow tk sc tm E ht rg bk) : mF B := by
  have := (PZ_eq h).1
  unfold mF
  omega
/-- a fault is told -/
theorem PZ_PF (h : PZ B0 B Y st vs cur op fr fc N F tp ow tk sc tm E ht rg bk) (hop : 0 ≤ op ∧ op ≤ 11) {x : Int} (h0 : 0 < x) (h1 : x ≤ 50000) : PF B0 (zu B 39 10 x) Y N (st.length : Int) := by
  obtain ⟨a1, a2, a3, a4, ⟨f1, f2, f3, f4, f5, f6, f7, f8, f9, f10, f11⟩, a5, a6, a7, a8, a9, a10, a11⟩ := h
  have hs := a9.1
  have hN := a10.1.1
  exact ⟨FR_tr a1 (FR_rf _), a2, a3, a4, ⟨by show 0 ≤ x; omega, h1⟩, ⟨by show x ≠ 0; omega, ⟨by show 0 ≤ (B 39 38); omega, by show (B 39 38) ≤ N; omega⟩, ⟨by show 0 ≤ (B 39 58); omega, by show (B 39 58) ≤ _; omega, by have := a9.2.2; omega⟩⟩, a5, a6, a7, a8⟩
theorem PZ_lex (h : PZ B0 B Y st vs cur op fr fc N F tp ow tk sc tm E ht rg bk) {a k f : Int} {Y' : zF} (g1 : (B 39 5) ≤ f) (g2 : f ≤ a) (g3 : a ≤ (B 39 4)) (g4 : k ≠ 12 → f < a) (g5 : -2147483648 ≤ k ∧ k < 2147483648) (g6 : mY Y') : PZ B0 (mS B a k f a) Y' st vs cur op f f N F tp ow k sc tm E ht rg bk := by
  obtain ⟨a1, a2, a3, a4, ⟨f1, f2, f3, f4, f5, f6, f7, f8, f9, f10, f11⟩, a5, a6, a7, a8, a9, a10, a11⟩ := h
  obtain ⟨t1, t2, t3, t4, t5, t6⟩ := a4
  exact ⟨FR_tr a1 (FR_rf _), a2, g6, ⟨by show 0 ≤ f; omega, g2, rfl, g3, g4, g5⟩, ⟨f1, f2, rfl, f4, f5, f6, f7, rfl, f9, f10, g2⟩, a5, a6, a7, a8, a9, CT_from a10 (by omega), a11⟩
theorem PZ_open (h : PZ B0 B Y st vs cur op fr fc N F tp ow tk sc tm E ht rg bk) (v : Int) : PZ B0 (zu B 39 20 v) Y st vs cur v fr fc N F tp ow tk sc tm E ht rg bk := by
  obtain ⟨a1, a2, a3, a4, ⟨f1, f2, f3, f4, f5, f6, f7, f8, f9, f10, f11⟩, a5, a6, a7, a8, a9, a10, a11⟩ := h
  exact ⟨FR_tr a1 (FR_rf _), a2, a3, a4, ⟨f1, rfl, f3, f4, f5, f6, f7, f8, f9, f10, f11⟩, a5, a6, a7, a8, a9, a10, a11⟩
theorem PZ_sec (h : PZ B0 B Y st vs cur op fr fc N F tp ow tk sc tm E ht rg bk) {s : Int} (hs : s = 0 ∨ s = 1) : PZ B0 (zu B 39 42 s) Y st vs cur op fr fc N F tp ow tk s tm E ht rg bk := by
  obtain ⟨a1, a2, a3, a4, ⟨f1, f2, f3, f4, f5, f6, f7, f8, f9, f10, f11⟩, a5, a6, a7, a8, a9, a10, a11⟩ := h
  exact ⟨FR_tr a1 (FR_rf _), a2, a3, a4, ⟨f1, f2, f3, f4, f5, f6, f7, f8, rfl, f10, f11⟩, a5, a6, a7, ⟨a8.1, a8.2.1, a8.2.2.1, hs⟩, a9, a10, a11⟩
theorem PZ_stm (h : PZ B0 B Y st vs cur op fr fc N F tp ow tk sc tm E ht rg bk) (v : Int) : PZ B0 (zu B 39 19 v) Y st vs cur op fr fc N F tp ow tk sc tm E ht rg bk := by
  obtain ⟨a1, a2, a3, a4, ⟨f1, f2, f3, f4, f5, f6, f7, f8, f9, f10, f11⟩, a5, a6, a7, a8, a9, a10, a11⟩ := h
  exact ⟨FR_tr a1 (FR_rf _), a2, a3, a4, ⟨f1, f2, f3, f4, f5, f6, f7, f8, f9, f10, f11⟩, a5, a6, a7, a8, a9, a10, a11⟩
theorem PZ_fb (h : PZ B0 B Y st vs cur op fr fc N F tp ow tk sc tm E ht rg bk) {x y : Int} (hx : -2147483648 ≤ x ∧ x < 2147483648) (hy : -2147483648 ≤ y ∧ y < 2147483648) : PZ B0 (zu (zu B 39 11 x) 39 12 y) Y st vs cur op fr fc N F tp ow tk sc tm E ht rg bk := by
  obtain ⟨a1, a2, a3, a4, ⟨f1, f2, f3, f4, f5, f6, f7, f8, f9, f10, f11⟩, a5, a6, a7, a8, a9, a10, a11⟩ := h
  exact ⟨FR_tr a1 (FR_rf _), a2, a3, a4, ⟨f1, f2, f3, f4, f5, f6, f7, f8, f9, f10, f11⟩, a5, a6, a7, ⟨hx, hy, a8.2.2⟩, a9, a10, a11⟩
theorem PZ_push (h : PZ B0 B Y st vs cur op fr fc N F tp ow tk sc tm E ht rg bk) (hn : st.length < 2000) {w a b c e : Int} (hd : td F tp N tm ow (B 58) (B 54) (B 55) ht rg bk w a b c e) : PZ B0 (mW B st.length w a b c e) Y ((w, a, b, c, e) :: st) ((w, a, b, c, e) :: vs) cur op fr fc N F tp ow tk sc tm E ht rg bk := by
  obtain ⟨a1, a2, a3, a4, ⟨f1, f2, f3, f4, f5, f6, f7, f8, f9, f10, f11⟩, a5, a6, a7, a8, a9, a10, a11⟩ := h
  exact ⟨FR_tr a1 (FR_rf _), a2, a3, a4, ⟨f1, f2, f3, f4, f5, f6, f7, f8, f9, f10, f11⟩, a5, a6, a7, a8, skk_push a9 hn w a b c e, CT_pn a10 (fun p hp => pnd_push _ hp), TD_cons hd a11⟩
/-- the task that was taken off the pile holds no open jump -/
theorem PZ_drop {x : zE} (h : PZ B0 B Y st (x :: vs) cur op fr fc N F tp ow tk sc tm E ht rg bk) (hx : x.1 ≠ 1 ∧ x.1 ≠ 8 ∧ x.1 ≠ 9 ∧ x.1 ≠ 11) : PZ B0 B Y st vs cur op fr fc N F tp ow tk sc tm E ht rg bk := by
  obtain ⟨a1, a2, a3, a4, a5, a6, a7, a8, a9, a10, a11, a12⟩ := h
  exact ⟨a1, a2, a3, a4, a5, a6, a7, a8, a9, a10, CT_pn a11 (fun p hp => pnd_pop hp (fun z => by omega)), TD_tl a12⟩
theorem PZ_say (h : PZ B0 B Y st vs cur op fr fc N F tp ow tk sc tm E ht rg bk) {w a b y fc' : Int} (hfc : fc ≤ fc') (hfa : fc' ≤ (B 39 5)) (hy0 : 0 ≤ y) (hy1 : y ≤ fc' - E F.toNat) (hok : ok1 w a tp F (B 55) cur y) : PZ B0 (zu (zu (zu (zu B 58 (B 39 38).toNat w) 59 (B 39 38).toNat a) 60 (B 39 38).toNat b) 39 38 ((B 39 38) + 1)) Y st vs y op fr fc' (N + 1) F tp ow tk sc tm E (zp ht (N.toNat + 1) y) (zp rg (N.toNat + 1) F) (zp bk N.toNat 0) := by
  obtain ⟨a1, a2, a3, a4, ⟨f1, f2, f3, f4, f5, f6, f7, f8, f9, f10, f11⟩, a5, a6, a7, a8, a9, a10, a11⟩ := h
  subst f10
  obtain ⟨⟨n1, n2, n3, n4⟩, -, hb0, -⟩ := id a10
  obtain ⟨c1, c2⟩ := CT_say a10 hfc hy0 hy1 hok
  rw [f4]
  refine ⟨FR_tr a1 (FR_rf _), a2, a3, a4, ⟨f1, f2, f3, rfl, f5, f6, f7, f8, f9, c2, hfa⟩, a5, a6, a7, a8, a9, c1, ?_⟩
  refine TD_mono (o' := zp (B 58) N.toNat w) a11 (Int.le_refl _) (by omega) (Int.le_refl _) (Int.le_refl _) n4 (fun j hj => zp_ne _ _ (by omega)) (fun j _ hj => ⟨zp_ne _ _ (by omega), zp_ne _ _ (by omega)⟩) (fun j hj => ?_)
  by_cases e : j = N.toNat
  · subst e
    rw [zp_at, hb0 _ (by omega)]
  · exact zp_ne _ _ e
/-- BRANCH (14) or GO (15), the target open: the task x that will set it lies in vs -/
theorem PZ_jmp (h : PZ B0 B Y st vs cur op fr fc N F tp ow tk sc tm E ht rg bk) {w a b : Int} (hw : (w = 14 ∧ cur = 1) ∨ (w = 15 ∧ cur = 0)) {x : zE} (hx : (x.1 = 8 ∨ x.1 = 9 ∨ x.1 = 11) ∧ x.2.1 = N) (hxd : ∀ o' ht' rg' bk' : Nat → Int, o' N.toNat = w → rg' N.toNat = F → bk' N.toNat = 0 → (∀ j : Nat, 1 ≤ j → (j : Int) ≤ tm → ht' j = ht j ∧ rg' j = rg j ∧ bk' j = bk j) → td F tp (N + 1) tm ow o' (B 54) (B 55) ht' rg' bk' x.1 x.2.1 x.2.2.1 x.2.2.2.1 x.2.2.2.2) : PZ B0 (zu (zu (zu (zu B 58 (B 39 38).toNat w) 59 (B 39 38).toNat a) 60 (B 39 38).toNat b) 39 38 ((B 39 38) + 1)) Y st (x :: vs) 0 op fr fc (N + 1) F tp ow tk sc tm E (zp ht (N.toNat + 1) 0) (zp rg (N.toNat + 1) F) (zp bk N.toNat 0) := by
  obtain ⟨a1, a2, a3, a4, ⟨f1, f2, f3, f4, f5, f6, f7, f8, f9, f10, f11⟩, a5, a6, a7, a8, a9, a10, a11⟩ := h
  obtain ⟨⟨n1, n2, n3, n4⟩, -, hb0, hrN, -⟩ := id a10
  rw [f4]
  have hpN : pnd (x :: vs) N.toNat := ⟨x, List.mem_cons_self, by omega, by omega⟩
  have key : CT (zp (B 58) N.toNat w) (zp (B 59) N.toNat a) (N + 1) F tp fc tm (B 54) (B 55) (B 56) E (pnd (x :: vs)) (zp ht (N.toNat + 1) 0) (zp rg (N.toNat + 1) F) (zp bk N.toNat 0) ∧ zp ht (N.toNat + 1) 0 (N + 1).toNat = 0 := by
    rcases hw with ⟨rfl, hc⟩ | ⟨rfl, hc⟩
    · exact CT_br a10 (Int.le_refl _) (fun p hp => pnd_push _ hp) hpN (f10.trans hc)
    · exact CT_go a10 (Int.le_refl _) (fun p hp => pnd_push _ hp) hpN (f10.trans hc)
  have hbk : ∀ j : Nat, (j : Int) < N ∨ (j : Int) ≤ tm → zp bk N.toNat 0 j = bk j := fun j hj => by
    by_cases e : j = N.toNat
    · subst e
      rw [zp_at, hb0 _ (by omega)]
    · exact zp_ne _ _ e
  refine ⟨FR_tr a1 (FR_rf _), a2, a3, a4, ⟨f1, f2, f3, rfl, f5, f6, f7, f8, f9, key.2, f11⟩, a5, a6, a7, a8, a9, key.1, ?_⟩
  have t1 : TD F tp (N + 1) tm ow (zp (B 58) N.toNat w) (B 54) (B 55) (zp ht (N.toNat + 1) 0) (zp rg (N.toNat + 1) F) (zp bk N.toNat 0) vs := TD_mono (o' := zp (B 58) N.toNat w) a11 (Int.le_refl _) (by omega) (Int.le_refl _) (Int.le_refl _) n4 (fun j hj => zp_ne _ _ (by omega)) (fun j _ hj => ⟨zp_ne _ _ (by omega), zp_ne _ _ (by omega)⟩) hbk
  intro y hy
  rcases List.mem_cons.mp hy with rfl | hy
  · exact hxd _ _ _ _ (zp_at _ _ _) ((zp_ne _ _ (by omega)).trans hrN) (zp_at _ _ _) (fun j j1 j2 => ⟨zp_ne _ _ (by omega), zp_ne _ _ (by omega), hbk j (Or.inr j2)⟩)
  · exact t1 y hy
/-- an open jump gets its target -/
theorem PZ_patch {x : zE} (h : PZ B0 B Y st (x :: vs) cur op fr fc N F tp ow tk sc tm E ht rg bk) {a : Int} (ha : x.2.1 = a) (hx : (x.1 = 1 ∧ a = 0) ∨ x.1 = 8 ∨ x.1 = 9 ∨ x.1 = 11) (hc : cur = 0) : PZ B0 (zu B 59 a.toNat N) Y st vs cur op fr fc N F tp ow tk sc N E ht rg bk := by
  obtain ⟨a1, a2, a3, a4, ⟨f1, f2, f3, f4, f5, f6, f7, f8, f9, f10, f11⟩, a5, a6, a7, a8, a9, a10, a11⟩ := h
  obtain ⟨⟨n1, n2, n3, n4⟩, hk, hb0, -⟩ := id a10
  obtain ⟨q1, -, q3, q4, -⟩ := a11 x List.mem_cons_self
  have key : (0 ≤ a ∧ a < N) ∧ ((B 58) a.toNat = 14 ∨ (B 58) a.toNat = 15) ∧ bk a.toNat = 0 ∧ (1 ≤ a.toNat → rg a.toNat = F) := by
    rcases hx with ⟨hx, hx0⟩ | hx | hx | hx
    · have e0 : a.toNat = 0 := by omega
      rw [e0]
      rcases hk 0 (by omega) with g | g | g | g
      · exact absurd g.2.2.2.2 (by omega)
      · exact absurd g.2.2.2 (by omega)
      · exact absurd g.2.2.2.2.2.2.1 (by omega)
      · exact ⟨by omega, Or.inr g.1, hb0 0 (Or.inr rfl), fun z => by omega⟩
    · obtain ⟨p1, p2, p3, p4⟩ := q3 (Or.inl hx)
      rw [ha] at p1 p2 p3 p4
      exact ⟨by omega, Or.inl p2, p4, fun _ => p3⟩
    · obtain ⟨p1, p2, p3, p4⟩ := q4 hx
      rw [ha] at p1 p2 p3 p4
      exact ⟨by omega, Or.inr p2, p4, fun _ => p3⟩
    · obtain ⟨p1, p2, p3, p4⟩ := q3 (Or.inr hx)
      rw [ha] at p1 p2 p3 p4
      exact ⟨by omega, Or.inl p2, p4, fun _ => p3⟩
  obtain ⟨k1, k2, k3, k4⟩ := key
  refine ⟨FR_tr a1 (FR_rf _), a2, a3, a4, ⟨f1, f2, f3, f4, f5, f6, f7, f8, f9, f10, f11⟩, a5, a6, a7, a8, a9, CT_patch a10 (p0 := a.toNat) (by omega) k2 k3 k4 (f10.trans hc) (fun p hp hq => pnd_pop hq (fun z => hp (by omega))), ?_⟩
  exact TD_mono (TD_tl a11) (Int.le_refl _) (Int.le_refl _) n4 (Int.le_refl _) n4 (fun _ _ => rfl) (fun _ _ _ => ⟨rfl, rfl⟩) (fun _ _ => rfl)
set_option maxRecDepth 100000 in
set_option maxHeartbeats 4000000 in
theorem z_next {Q : zF → zF → zF → Nat → zT → Prop} (hd : 2 ≤ d) (h : PZ B0 B Y st vs cur op fr fc N F tp ow tk sc tm E ht rg bk) (q : ∀ B' Y' f k, fr ≤ f → (tk ≠ 12 → fr < f) → PZ B0 B' Y' st vs cur op f f N F tp ow k sc tm E ht rg bk → SM B B' → Q A B' Y' K T) : pzV d 5 [.inr (.inr 39)] (A, B, Y, K, T) Q := by
  obtain ⟨p1, p2, p3, -⟩ := PZ_tk h
  obtain ⟨-, hK, hY, ⟨t1, t2, t3, t4, t5, t6⟩, -⟩ := id h
  have e := PZ_eq h
  exact m_next hd hK hY (by omega) t4 (fun a k f Y' g1 g2 g3 g4 g5 g6 => q _ _ f k (by omega) (fun z => by have := p2 z; omega) (PZ_lex h g1 g2 g3 g4 g5 g6) (SM_rf B))
set_option maxRecDepth 100000 in
set_option maxHeartbeats 4000000 in
theorem z_meets {t : Int} {Q : Int → zF → zF → zF → Nat → zT → Prop} (hd : 3 ≤ d) (h : PZ B0 B Y st vs cur op fr fc N F tp ow tk sc tm E ht rg bk) (htt : -2147483648 ≤ t ∧ t < 2147483648) (q0 : tk ≠ t → Q 0 A B Y K T) (q1 : ∀ B' Y' f k, tk = t → fr ≤ f → (tk ≠ 12 → fr < f) → PZ B0 B' Y' st vs cur op f f N F tp ow k sc tm E ht rg bk → SM B B' → Q 1 A B' Y' K T) : pzI d 10 [.inr (.inr 39), .inl t] (A, B, Y, K, T) Q := by
  obtain ⟨p1, p2, p3, -⟩ := PZ_tk h
  obtain ⟨-, hK, hY, hT, -⟩ := id h
  obtain ⟨t1, t2, t3, t4, t5, t6⟩ := id hT
  have e := PZ_eq h
  refine m_meets hd hK hY hT (PZ_mF h) htt (fun z => q0 (fun w => ?_)) (fun a k f Y' z1 z2 g1 g2 g3 g4 g5 g6 => q1 _ _ f k (by omega) (by omega) (fun z => by have := p2 z; omega) (PZ_lex h g1 g2 g3 g4 g5 g6) (SM_rf B))
  exact z e.1 (by omega)
set_option maxRecDepth 100000 in
set_option maxHeartbeats 4000000 in
theorem z_must {t : Int} {Q : zF → zF → zF → Nat → zT → Prop} (hd : 4 ≤ d) (h : PZ B0 B Y st vs cur op fr fc N F tp ow tk sc tm E ht rg bk) (hop : 0 ≤ op ∧ op ≤ 11) (htt : -2147483648 ≤ t ∧ t < 2147483648) (q0 : ∀ B', PF B0 B' Y N (st.length : Int) → Q A B' Y K T) (q1 : ∀ B' Y' f k, tk = t → fr ≤ f → (tk ≠ 12 → fr < f) → PZ B0 B' Y' st vs cur op f f N F tp ow k sc tm E ht rg bk → SM B B' → Q A B' Y' K T) : pzV d 11 [.inr (.inr 39), .inl t] (A, B, Y, K, T) Q := by
  obtain ⟨p1, p2, p3, -⟩ := PZ_tk h
  obtain ⟨-, hK, hY, hT, -⟩ := id h
  obtain ⟨t1, t2, t3, t4, t5, t6⟩ := id hT
  have e := PZ_eq h
  exact m_must hd hK hY hT (PZ_mF h) htt (fun x x1 x2 => q0 _ (PZ_PF h hop x1 x2)) (fun a k f Y' z1 z2 g1 g2 g3 g4 g5 g6 => q1 _ _ f k (by omega) (by omega) (fun z => by have := p2 z; omega) (PZ_lex h g1 g2 g3 g4 g5 g6) (SM_rf B))
set_option maxRecDepth 100000 in
set_option maxHeartbeats 4000000 in
theorem z_fail {w : Int} {Q : zF → zF → zF → Nat → zT → Prop} (h : PZ B0 B Y st vs cur op fr fc N F tp ow tk sc tm E ht rg bk) (hop : 0 ≤ op ∧ op ≤ 11) (hw : 0 < w ∧ w ≤ 1000) (q0 : ∀ B', PF B0 B' Y N (st.length : Int) → (B' 39 20) = op → Q A B' Y K T) : pzV d 9 [.inr (.inr 39), .inl w] (A, B, Y, K, T) Q := by
  obtain ⟨p1, p2, p3, -⟩ := PZ_tk h
  have e := PZ_eq h
  refine m_fail (PZ_mF h) (fun x x1 x2 => q0 _ (PZ_PF h hop ?_ ?_) e.2.1)
  · have := x1 e.1; omega
  · have := x1 e.1; omega
set_option maxRecDepth 100000 in
set_option maxHeartbeats 4000000 in
theorem z_deeper {Q : zF → zF → zF → Nat → zT → Prop} (hd : 1 ≤ d) (h : PZ B0 B Y st vs cur op fr fc N F tp ow tk sc tm E ht rg bk) (hop : 0 ≤ op ∧ op ≤ 10) (q0 : ∀ B', PF B0 B' Y N (st.length : Int) → Q A B' Y K T) (q1 : ∀ B', op ≤ 9 → PZ B0 B' Y st vs cur (op + 1) fr fc N F tp ow tk sc tm E ht rg bk → SM B B' → Q A B' Y K T) : pzV d 16 [.inr (.inr 39)] (A, B, Y, K, T) Q := by
  obtain ⟨p1, p2, p3, -⟩ := PZ_tk h
  have e := PZ_eq h
  refine m_deeper hd (PZ_mF h) (by omega) (by omega) (fun x x1 x2 x3 => q0 _ ?_) (fun z => ?_)
  · obtain ⟨b1, b2, b3, b4, b5, ⟨b6, b7, b8⟩, b10⟩ := PZ_PF h (by omega) x1 x2
    exact ⟨FR_tr b1 (FR_rf _), b2, b3, b4, b5, ⟨b6, b7, b8⟩, b10⟩
  · rw [e.2.1]
    rw [e.2.1] at z
    exact q1 _ (by omega) (PZ_open h _) (SM_rf B)
set_option maxRecDepth 100000 in
set_option maxHeartbeats 4000000 in
theorem z_wait {w a b c e : Int} {Q : zF → zF → zF → Nat → zT → Prop} (h : PZ B0 B Y st vs cur op fr fc N F tp ow tk sc tm E ht rg bk) (hn : st.length < 2000) (hx : td F tp N tm ow (B 58) (B 54) (B 55) ht rg bk w a b c e) (q : ∀ B', PZ B0 B' Y ((w, a, b, c, e) :: st) ((w, a, b, c, e) :: vs) cur op fr fc N F tp ow tk sc tm E ht rg bk → SM B B' → Q A B' Y K T) : pzV d 20 [.inr (.inr 39), .inl w, .inl a, .inl b, .inl c, .inl e] (A, B, Y, K, T) Q :=
  m_wait (PZ_eq h).2.2.2.2.2.2.2.2.2.2.2 hn (q _ (PZ_push h hn hx) (SM_rf B))
set_option maxRecDepth 100000 in
set_option maxHeartbeats 4000000 in
theorem z_plain {w : Int} {Q : zF → zF → zF → Nat → zT → Prop} (hd : 1 ≤ d) (h : PZ B0 B Y st vs cur op fr fc N F tp ow tk sc tm E ht rg bk) (hn : st.length < 2000) (hx : td F tp N tm ow (B 58) (B 54) (B 55) ht rg bk w 0 0 0 0) (q : ∀ B', PZ B0 B' Y ((w, 0, 0, 0, 0) :: st) ((w, 0, 0, 0, 0) :: vs) cur op fr fc N F tp ow tk sc tm E ht rg bk → SM B B' → Q A B' Y K T) : pzV d 21 [.inr (.inr 39), .inl w] (A, B, Y, K, T) Q :=
  m_plain hd (PZ_eq h).2.2.2.2.2.2.2.2.2.2.2 hn (q _ (PZ_push h hn hx) (SM_rf B))
set_option maxRecDepth 100000 in
set_option maxHeartbeats 4000000 in
theorem z_forbid {w p : Int} {Q : zF → zF → zF → Nat → zT → Prop} (h : PZ B0 B Y st vs cur op fr fc N F tp ow tk sc tm E ht rg bk) (hw : -2147483648 ≤ w ∧ w < 2147483648) (hp : -2147483648 ≤ p ∧ p < 2147483648) (q : ∀ B', PZ B0 B' Y st vs cur op fr fc N F tp ow tk sc tm E ht rg bk → SM B B' → Q A B' Y K T) : pzV d 12 [.inr (.inr 39), .inl w, .inl p] (A, B, Y, K, T) Q := by
  obtain ⟨-, -, -, -, -, -, -, -, hX, -⟩ := id h
  exact m_forbid hX.1 hX.2.1 hw hp (fun x y hx hy => q _ (PZ_fb h hx hy) (SM_rf B))
set_option maxRecDepth 100000 in
set_option maxHeartbeats 4000000 in
theorem z_say {w a b y fc' : Int} {Q : zF → zF → zF → Nat → zT → Prop} (h : PZ B0 B Y st vs cur op fr fc N F tp ow tk sc tm E ht rg bk) (hN : N < 12000) (hfc : fc ≤ fc') (hfa : fc' ≤ (B 39 5)) (hy0 : 0 ≤ y) (hy1 : y ≤ fc' - E F.toNat) (hok : ok1 w a tp F (B 55) cur y) (q : ∀ B' ht' rg' bk', PZ B0 B' Y st vs y op fr fc' (N + 1) F tp ow tk sc tm E ht' rg' bk' → ((B' 58) N.toNat = w ∧ (B' 39 5) = (B 39 5) ∧ (B' 55) = (B 55) ∧ (B' 49) = (B 49) ∧ (B' 47) = (B 47) ∧ (B' 54) = (B 54)) → (∀ j : Nat, 1 ≤ j → (j : Int) ≤ tm → ht' j = ht j ∧ rg' j = rg j ∧ bk' j = bk j) → Q A B' Y K T) : pzV d 15 [.inr (.inr 39), .inl w, .inl a, .inl b] (A, B, Y, K, T) Q := by
  have e := PZ_eq h
  obtain ⟨-, -, -, -, p5, -⟩ := PZ_tk h
  have hb0 : ∀ p : Nat, (N ≤ (p : Int) ∨ p = 0) → bk p = 0 := by
    obtain ⟨-, -, -, -, -, -, -, -, -, -, ⟨-, -, hb0, -⟩, -⟩ := id h
    exact hb0
  refine m_say (by omega) (by omega) (q _ _ _ _ (PZ_say (b := b) h hfc hfa hy0 hy1 hok) ⟨?_, rfl, rfl, rfl, rfl, rfl⟩ (fun j j1 j2 => ⟨zp_ne _ _ (by omega), zp_ne _ _ (by omega), ?_⟩))
  · rw [e.2.2.2.1]
    show zp (B 58) N.toNat w N.toNat = w
    exact zp_at _ _ _
  · by_cases ej : j = N.toNat
    · subst ej
      rw [zp_at, hb0 _ (by omega)]
    · exact zp_ne _ _ ej
set_option maxRecDepth 100000 in
set_option maxHeartbeats 4000000 in
theorem f_say {w a b : Int} {Q : zF → zF → zF → Nat → zT → Prop} (h : PF B0 B Y on tn) (hN : on < 12000) (q : ∀ B', PF B0 B' Y (on + 1) tn → Q A B' Y K T) : pzV d 15 [.inr (.inr 39), .inl w, .inl a, .inl b] (A, B, Y, K, T) Q := by
  obtain ⟨b1, b2, b3, b4, b5, ⟨b6, b7, b8⟩, b10⟩ := h
  exact m_say (by omega) (by omega) (q _ ⟨FR_tr b1 (FR_rf _), b2, b3, b4, b5, ⟨b6, ⟨by show 0 ≤ (B 39 38) + 1; omega, by show (B 39 38) + 1 ≤ on + 1; omega⟩, b8⟩, b10⟩)
theorem f_wait {w a b c e : Int} {Q : zF → zF → zF → Nat → zT → Prop} (h : PF B0 B Y on tn) (hN : tn < 2000) (q : ∀ B', PF B0 B' Y on (tn + 1) → Q A B' Y K T) : pzV d 20 [.inr (.inr 39), .inl w, .inl a, .inl b, .inl c, .inl e] (A, B, Y, K, T) Q := by
  obtain ⟨b1, b2, b3, b4, b5, ⟨b6, b7, b8⟩, b10⟩ := h
  exact m_wait (n := (B 39 58).toNat) (by omega) (by omega) (q _ ⟨FR_tr b1 (FR_rf _), b2, b3, b4, b5, ⟨b6, b7, ⟨by show 0 ≤ (((B 39 58).toNat : Nat) : Int) + 1; omega, by show (((B 39 58).toNat : Nat) : Int) + 1 ≤ tn + 1; omega, by omega⟩⟩, b10⟩)
theorem f_plain {w : Int} {Q : zF → zF → zF → Nat → zT → Prop} (hd : 1 ≤ d) (h : PF B0 B Y on tn) (hN : tn < 2000) (q : ∀ B', PF B0 B' Y on (tn + 1) → Q A B' Y K T) : pzV d 21 [.inr (.inr 39), .inl w] (A, B, Y, K, T) Q := by
  obtain ⟨b1, b2, b3, b4, b5, ⟨b6, b7, b8⟩, b10⟩ := h
  exact m_plain (n := (B 39 58).toNat) hd (by omega) (by omega) (q _ ⟨FR_tr b1 (FR_rf _), b2, b3, b4, b5, ⟨b6, b7, ⟨by show 0 ≤ (((B 39 58).toNat : Nat) : Int) + 1; omega, by show (((B 39 58).toNat : Nat) : Int) + 1 ≤ tn + 1; omega, by omega⟩⟩, b10⟩)
theorem f_must {t : Int} {Q : zF → zF → zF → Nat → zT → Prop} (hd : 4 ≤ d) (h : PF B0 B Y on tn) (ht : -2147483648 ≤ t ∧ t < 2147483648) (q : ∀ B', PF B0 B' Y on tn → Q A B' Y K T) : pzV d 11 [.inr (.inr 39), .inl t] (A, B, Y, K, T) Q := by
  obtain ⟨b1, b2, b3, b4, b5, ⟨b6, b7, b8⟩, b10⟩ := h
  exact m_must hd b2 b3 b4 b5 ht (fun x x1 x2 => q _ ⟨FR_tr b1 (FR_rf _), b2, b3, b4, ⟨by show 0 ≤ x; omega, x2⟩, ⟨by show x ≠ 0; omega, b7, b8⟩, b10⟩) (fun a k f Y' z _ _ _ _ _ _ _ => absurd z b6)
theorem f_fail {w : Int} {Q : zF → zF → zF → Nat → zT → Prop} (h : PF B0 B Y on tn) (q : ∀ B', PF B0 B' Y on tn → Q A B' Y K T) : pzV d 9 [.inr (.inr 39), .inl w] (A, B, Y, K, T) Q := by
  obtain ⟨b1, b2, b3, b4, b5, ⟨b6, b7, b8⟩, b10⟩ := h
  obtain ⟨f1, f2⟩ := id b5
  exact m_fail b5 (fun x x1 x2 => by
    have e := x2 b6
    exact q _ ⟨FR_tr b1 (FR_rf _), b2, b3, b4, ⟨by show 0 ≤ x; omega, by show x ≤ 50000; omega⟩, ⟨by show x ≠ 0; omega, b7, b8⟩, b10⟩)
theorem f_meets {t : Int} {Q : Int → zF → zF → zF → Nat → zT → Prop} (hd : 3 ≤ d) (h : PF B0 B Y on tn) (ht : -2147483648 ≤ t ∧ t < 2147483648) (q : Q 0 A B Y K T) : pzI d 10 [.inr (.inr 39), .inl t] (A, B, Y, K, T) Q := by
  obtain ⟨b1, b2, b3, b4, b5, ⟨b6, b7, b8⟩, b10⟩ := h
  exact m_meets hd b2 b3 b4 b5 ht (fun _ => q) (fun a k f Y' z _ _ _ _ _ _ _ => absurd z b6)
theorem PF_eq (h : PF B0 B Y on tn) : 0 < (B 39 10) ∧ (B 39 10) ≤ 50000 ∧ (0 ≤ (B 39 58) ∧ (B 39 58) ≤ tn ∧ tn ≤ 2000) ∧ (0 ≤ (B 39 38) ∧ (B 39 38) ≤ on) ∧ (0 ≤ (B 39 7) ∧ (B 39 7) ≤ 3000) ∧ (-2147483648 ≤ (B 39 6) ∧ (B 39 6) < 2147483648) ∧ ((B 39 42) = 0 ∨ (B 39 42) = 1) := by
  obtain ⟨b1, b2, b3, ⟨t1, t2, t3, t4, t5, t6⟩, ⟨f1, f2⟩, ⟨b6, b7, b8⟩, b10, b11, b12, b13⟩ := h
  have := b2.1
  exact ⟨by omega, by omega, b8, b7, by omega, t6, b13.2.2.2⟩
theorem PF_open (h : PF B0 B Y on tn) (v : Int) : PF B0 (zu B 39 20 v) Y on tn := by
  obtain ⟨b1, b2, b3, b4, b5, ⟨b6, b7, b8⟩, b10⟩ := h
  exact ⟨FR_tr b1 (FR_rf _), b2, b3, b4, b5, ⟨b6, b7, b8⟩, b10⟩
theorem PF_sec (h : PF B0 B Y on tn) {s : Int} (hs : s = 0 ∨ s = 1) : PF B0 (zu B 39 42 s) Y on tn := by
  obtain ⟨b1, b2, b3, b4, b5, b6, b7, b8, b9, b10⟩ := h
  exact ⟨FR_tr b1 (FR_rf _), b2, b3, b4, b5, b6, b7, b8, b9, ⟨b10.1, b10.2.1, b10.2.2.1, hs⟩⟩
theorem PF_one (h : PF B0 B Y on tn) (k : Nat) (v : Int) : PF B0 (zu B 59 k v) Y on tn := by
  obtain ⟨b1, b2, b3, b4, b5, b6, b7, b8, b9, b10⟩ := h
  exact ⟨FR_tr b1 (FR_rf _), b2, b3, b4, b5, b6, b7, b8, b9, b10⟩
end ZO
/-- all is read, without a fault -/
def PE (B0 B Y : zF) : Prop := FR B0 B ∧ mY Y ∧ ((B 39 10) = 0 ∧ (B 39 58) = 0 ∧ (-2147483648 ≤ (B 39 11) ∧ (B 39 11) < 2147483648) ∧ (B 39 38) ≤ 12000) ∧ mD B ∧ mG B ∧ mO B ∧ mX B ∧ ∃ E ht rg bk, FI (B 58) (B 59) (B 39 38) (B 39 17) (B 39 13) (B 54) (B 55) (B 56) E ht rg bk
/-- what a task's work leaves: a fault, or tasks that fit and weigh less than m, or all is read -/
def HQ (B0 : zF) (m : Int) (A : zF) (K : Nat) (T : zT) (Q : zF → zF → zF → Nat → zT → Prop) : Prop :=
  (∀ B Y on tn, PF B0 B Y on tn → Q A B Y K T) ∧
  (∀ B Y st cur op fr N F tp ow tk sc tm E ht rg bk, PZ B0 B Y st st cur op fr fr N F tp ow tk sc tm E ht rg bk → WT st cur op → N + PD st ≤ 3 * fr + 2 → op ≤ 10 → 64 * (3001 - fr) + SW st < m → Q A B Y K T) ∧
  (∀ B Y, PE B0 B Y → Q A B Y K T)
