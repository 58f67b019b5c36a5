/-! What the model's code is: heights, regions, landing places -/
abbrev zE : Type := Int × Int × Int × Int × Int
def zp (f : Nat → Int) (n : Nat) (v : Int) : Nat → Int := fun j => bif Nat.beq j n then v else f j
theorem zp_ap (f : Nat → Int) (n j : Nat) (v : Int) : zp f n v j = if j = n then v else f j := beq_if j n v (f j)
theorem zp_at (f : Nat → Int) (n : Nat) (v : Int) : zp f n v n = v := by rw [zp_ap, if_pos rfl]
theorem zp_ne (f : Nat → Int) {n j : Nat} (v : Int) (h : j ≠ n) : zp f n v j = f j := by rw [zp_ap, if_neg h]
/-- an order that is no jump and no end: what it holds, the heights before and behind it -/
def ok1 (w a tp rp : Int) (pr : Nat → Int) (x y : Int) : Prop :=
  (w = 1 ∧ (-2147483648 ≤ a ∧ a < 2147483648) ∧ y = x + 1) ∨ (w = 2 ∧ (0 ≤ a ∧ a < 2560) ∧ y = x + 1) ∨ (w = 3 ∧ (0 ≤ a ∧ a < 12) ∧ y = x + 1) ∨ (w = 4 ∧ (0 ≤ a ∧ a < tp) ∧ 1 ≤ x ∧ y = x) ∨ (w = 5 ∧ (0 ≤ a ∧ a < 2560) ∧ 1 ≤ x ∧ y = x - 1) ∨ (w = 6 ∧ (0 ≤ a ∧ a < 12) ∧ 1 ≤ x ∧ y = x - 1) ∨ (w = 7 ∧ (0 ≤ a ∧ a < tp) ∧ 2 ≤ x ∧ y = x - 2) ∨ (w = 8 ∧ isop a ∧ 2 ≤ x ∧ y = x - 1) ∨ (w = 9 ∧ (-2147483648 ≤ a ∧ a < 2147483648) ∧ 1 ≤ x ∧ y = x) ∨ (w = 10 ∧ 3 ≤ x ∧ y = x - 2) ∨ (w = 11 ∧ (0 ≤ a ∧ a < rp) ∧ pr a.toNat ≤ x ∧ y = x - pr a.toNat + 1) ∨ (w = 13 ∧ y = x)
theorem ok1_w {w a tp rp : Int} {pr : Nat → Int} {x y : Int} (h : ok1 w a tp rp pr x y) : w ≠ 12 ∧ w ≠ 14 ∧ w ≠ 15 ∧ w ≠ 16 := by
  unfold ok1 at h
  rcases h with h | h | h | h | h | h | h | h | h | h | h | h <;> (have := h.1; omega)
theorem ok1_w13 {w a tp rp : Int} {pr : Nat → Int} {x y : Int} (h : ok1 w a tp rp pr x y) : w = 11 → (0 ≤ a ∧ a < rp) ∧ pr a.toNat ≤ x ∧ y = x - pr a.toNat + 1 := by
  intro e
  unfold ok1 at h
  rcases h with h | h | h | h | h | h | h | h | h | h | h | h <;> first | (exfalso; have := h.1; omega) | exact h.2
theorem ok1_tp {w a tp tp' rp : Int} {pr : Nat → Int} {x y : Int} (h : ok1 w a tp rp pr x y) (ht : tp ≤ tp') : ok1 w a tp' rp pr x y := by
  unfold ok1 at h ⊢
  rcases h with h | h | h | h | h | h | h | h | h | h | h | h
  · exact Or.inl h
  · exact Or.inr (Or.inl h)
  · exact Or.inr (Or.inr (Or.inl h))
  · exact Or.inr (Or.inr (Or.inr (Or.inl ⟨h.1, by omega, h.2.2⟩)))
  · exact Or.inr (Or.inr (Or.inr (Or.inr (Or.inl h))))
  · exact Or.inr (Or.inr (Or.inr (Or.inr (Or.inr (Or.inl h)))))
  · exact Or.inr (Or.inr (Or.inr (Or.inr (Or.inr (Or.inr (Or.inl ⟨h.1, by omega, h.2.2⟩))))))
  · exact Or.inr (Or.inr (Or.inr (Or.inr (Or.inr (Or.inr (Or.inr (Or.inl h)))))))
  · exact Or.inr (Or.inr (Or.inr (Or.inr (Or.inr (Or.inr (Or.inr (Or.inr (Or.inl h))))))))
  · exact Or.inr (Or.inr (Or.inr (Or.inr (Or.inr (Or.inr (Or.inr (Or.inr (Or.inr (Or.inl h)))))))))
  · exact Or.inr (Or.inr (Or.inr (Or.inr (Or.inr (Or.inr (Or.inr (Or.inr (Or.inr (Or.inr (Or.inl h))))))))))
  · exact Or.inr (Or.inr (Or.inr (Or.inr (Or.inr (Or.inr (Or.inr (Or.inr (Or.inr (Or.inr (Or.inr h))))))))))
/-- the parameters of functions below F count alone -/
theorem ok1_pr {w a tp rp F : Int} {pr pr' : Nat → Int} {x y : Int} (h : ok1 w a tp rp pr x y) (hr : rp ≤ F) (hp : ∀ f : Nat, (f : Int) < F → pr' f = pr f) : ok1 w a tp rp pr' x y := by
  unfold ok1 at h ⊢
  rcases h with h | h | h | h | h | h | h | h | h | h | h | h
  · exact Or.inl h
  · exact Or.inr (Or.inl h)
  · exact Or.inr (Or.inr (Or.inl h))
  · exact Or.inr (Or.inr (Or.inr (Or.inl h)))
  · exact Or.inr (Or.inr (Or.inr (Or.inr (Or.inl h))))
  · exact Or.inr (Or.inr (Or.inr (Or.inr (Or.inr (Or.inl h)))))
  · exact Or.inr (Or.inr (Or.inr (Or.inr (Or.inr (Or.inr (Or.inl h))))))
  · exact Or.inr (Or.inr (Or.inr (Or.inr (Or.inr (Or.inr (Or.inr (Or.inl h)))))))
  · exact Or.inr (Or.inr (Or.inr (Or.inr (Or.inr (Or.inr (Or.inr (Or.inr (Or.inl h))))))))
  · exact Or.inr (Or.inr (Or.inr (Or.inr (Or.inr (Or.inr (Or.inr (Or.inr (Or.inr (Or.inl h)))))))))
  · refine Or.inr (Or.inr (Or.inr (Or.inr (Or.inr (Or.inr (Or.inr (Or.inr (Or.inr (Or.inr (Or.inl ⟨h.1, h.2.1, ?_⟩))))))))))
    rw [hp a.toNat (by have := h.2.1; omega)]
    exact h.2.2
  · exact Or.inr (Or.inr (Or.inr (Or.inr (Or.inr (Or.inr (Or.inr (Or.inr (Or.inr (Or.inr (Or.inr h))))))))))
/-- a jump's target -/
def okt (o u : Nat → Int) (F tm : Int) (ht rg bk : Nat → Int) (p : Nat) : Prop :=
  (1 ≤ u p ∧ u p ≤ tm) ∧ ht (u p).toNat = 0 ∧ bk (u p).toNat = 0 ∧ (bk p = 0 → (p : Int) < u p) ∧ (bk p ≠ 0 → u p ≤ (p : Int) ∧ 1 ≤ p ∧ o (p - 1) = 13) ∧ (1 ≤ p → rg (u p).toNat = rg p) ∧ (p = 0 → rg (u p).toNat = F)
def okc (o u : Nat → Int) (F tp tm : Int) (pr : Nat → Int) (pn : Nat → Prop) (ht rg bk : Nat → Int) (p : Nat) : Prop :=
  (ok1 (o p) (u p) tp (rg p) pr (ht p) (ht (p + 1)) ∧ rg (p + 1) = rg p ∧ bk p = 0 ∧ (o p ≠ 13 → bk (p + 1) = 0) ∧ 1 ≤ p) ∨
  (o p = 12 ∧ (1 ≤ ht p ∧ rg p < F) ∧ bk p = 0 ∧ 1 ≤ p) ∨
  (o p = 14 ∧ ht p = 1 ∧ ht (p + 1) = 0 ∧ rg (p + 1) = rg p ∧ bk p = 0 ∧ bk (p + 1) = 0 ∧ 1 ≤ p ∧ (pn p ∨ okt o u F tm ht rg bk p)) ∨
  (o p = 15 ∧ (1 ≤ p → ht p = 0) ∧ (pn p ∨ okt o u F tm ht rg bk p))
/-- the code so far: N orders, F functions whole, landing places up to tm -/
def CT (o u : Nat → Int) (N F tp fr tm : Int) (fb pr ow E : Nat → Int) (pn : Nat → Prop) (ht rg bk : Nat → Int) : Prop :=
  (1 ≤ N ∧ 0 ≤ F ∧ F ≤ 6 ∧ tm ≤ N) ∧
  (∀ p : Nat, (p : Int) < N → okc o u F tp tm pr pn ht rg bk p) ∧
  (∀ p : Nat, (N ≤ (p : Int) ∨ p = 0) → bk p = 0) ∧
  rg N.toNat = F ∧
  (∀ p q : Nat, 1 ≤ p → p ≤ q → (q : Int) ≤ N → rg p ≤ rg q) ∧
  (∀ p : Nat, 1 ≤ p → (p : Int) ≤ N → 0 ≤ rg p ∧ 0 ≤ ht p ∧ (rg p < F → ht p ≤ E (rg p + 1).toNat - E (rg p).toNat) ∧ (rg p = F → ht p ≤ fr - E F.toNat)) ∧
  ((∀ f : Nat, (f : Int) < F → E f ≤ E (f + 1)) ∧ 0 ≤ E 0 ∧ E F.toNat ≤ fr) ∧
  (∀ f : Nat, (f : Int) < F → (1 ≤ fb f ∧ fb f ≤ tm) ∧ rg (fb f).toNat = f ∧ ht (fb f).toNat = 0 ∧ bk (fb f).toNat = 0 ∧ (0 ≤ pr f ∧ pr f ≤ ow f ∧ ow f ≤ 12))
section CT1
variable {o u : Nat → Int} {N F tp fr tm : Int} {fb pr ow E : Nat → Int} {pn : Nat → Prop} {ht rg bk : Nat → Int}
theorem CT_cur (h : CT o u N F tp fr tm fb pr ow E pn ht rg bk) : 0 ≤ ht N.toNat ∧ ht N.toNat ≤ fr - E F.toNat := by
  obtain ⟨⟨n1, n2, n3, n4⟩, -, -, h4, -, h6, -, -⟩ := h
  obtain ⟨-, q2, -, q4⟩ := h6 N.toNat (by omega) (by omega)
  exact ⟨q2, q4 h4⟩
theorem CT_rgF (h : CT o u N F tp fr tm fb pr ow E pn ht rg bk) {p : Nat} (h1 : 1 ≤ p) (h2 : (p : Int) ≤ N) : rg p ≤ F := by
  obtain ⟨⟨n1, n2, n3, n4⟩, -, -, h4, h5, -, -, -⟩ := h
  have := h5 p N.toNat h1 (by omega) (by omega)
  omega
theorem CT_from (h : CT o u N F tp fr tm fb pr ow E pn ht rg bk) {fr' : Int} (hf : fr ≤ fr') : CT o u N F tp fr' tm fb pr ow E pn ht rg bk := by
  obtain ⟨h1, h2, h3, h4, h5, h6, ⟨h7, h8, h9⟩, h10⟩ := h
  refine ⟨h1, h2, h3, h4, h5, fun p q1 q2 => ?_, ⟨h7, h8, by omega⟩, h10⟩
  obtain ⟨g1, g2, g3, g4⟩ := h6 p q1 q2
  exact ⟨g1, g2, g3, fun z => by have := g4 z; omega⟩
theorem okc_pn {p : Nat} {pn' : Nat → Prop} (h : okc o u F tp tm pr pn ht rg bk p) (hp : pn p → pn' p) : okc o u F tp tm pr pn' ht rg bk p := by
  rcases h with h | h | ⟨g1, g2, g3, g4, g5, g6, g7, g8⟩ | ⟨g1, g2, g3⟩
  · exact Or.inl h
  · exact Or.inr (Or.inl h)
  · exact Or.inr (Or.inr (Or.inl ⟨g1, g2, g3, g4, g5, g6, g7, g8.imp hp id⟩))
  · exact Or.inr (Or.inr (Or.inr ⟨g1, g2, g3.imp hp id⟩))
theorem CT_pn (h : CT o u N F tp fr tm fb pr ow E pn ht rg bk) {pn' : Nat → Prop} (hp : ∀ p, pn p → pn' p) : CT o u N F tp fr tm fb pr ow E pn' ht rg bk := by
  obtain ⟨h1, h2, h3⟩ := h
  exact ⟨h1, fun p q => okc_pn (h2 p q) (hp p), h3⟩
theorem okt_tm {p : Nat} {tm' : Int} (h : okt o u F tm ht rg bk p) (ht' : tm ≤ tm') : okt o u F tm' ht rg bk p := by
  obtain ⟨⟨g1, g2⟩, g3⟩ := h
  exact ⟨⟨g1, by omega⟩, g3⟩
theorem okc_tm {p : Nat} {tm' : Int} (h : okc o u F tp tm pr pn ht rg bk p) (ht' : tm ≤ tm') : okc o u F tp tm' pr pn ht rg bk p := by
  rcases h with h | h | ⟨g1, g2, g3, g4, g5, g6, g7, g8⟩ | ⟨g1, g2, g3⟩
  · exact Or.inl h
  · exact Or.inr (Or.inl h)
  · exact Or.inr (Or.inr (Or.inl ⟨g1, g2, g3, g4, g5, g6, g7, g8.imp id (fun z => okt_tm z ht')⟩))
  · exact Or.inr (Or.inr (Or.inr ⟨g1, g2, g3.imp id (fun z => okt_tm z ht')⟩))
theorem CT_tm (h : CT o u N F tp fr tm fb pr ow E pn ht rg bk) {tm' : Int} (h0 : tm ≤ tm') (h1 : tm' ≤ N) : CT o u N F tp fr tm' fb pr ow E pn ht rg bk := by
  obtain ⟨⟨n1, n2, n3, n4⟩, h2, h3, h4, h5, h6, h7, h8⟩ := h
  refine ⟨⟨n1, n2, n3, h1⟩, fun p q => okc_tm (h2 p q) h0, h3, h4, h5, h6, h7, fun f hf => ?_⟩
  obtain ⟨⟨g1, g2⟩, g3⟩ := h8 f hf
  exact ⟨⟨g1, by omega⟩, g3⟩
theorem CT_tp (h : CT o u N F tp fr tm fb pr ow E pn ht rg bk) {tp' : Int} (h0 : tp ≤ tp') : CT o u N F tp' fr tm fb pr ow E pn ht rg bk := by
  obtain ⟨h1, h2, h3⟩ := h
  refine ⟨h1, fun p q => ?_, h3⟩
  rcases h2 p q with ⟨g1, g2⟩ | g | g | g
  · exact Or.inl ⟨ok1_tp g1 h0, g2⟩
  · exact Or.inr (Or.inl g)
  · exact Or.inr (Or.inr (Or.inl g))
  · exact Or.inr (Or.inr (Or.inr g))
/-- what is written of functions that are not whole yet doesn't count -/
theorem CT_fn (h : CT o u N F tp fr tm fb pr ow E pn ht rg bk) {fb' pr' ow' : Nat → Int} (hp : ∀ f : Nat, (f : Int) < F → fb' f = fb f ∧ pr' f = pr f ∧ ow' f = ow f) : CT o u N F tp fr tm fb' pr' ow' E pn ht rg bk := by
  have hrg : ∀ {p : Nat}, 1 ≤ p → (p : Int) ≤ N → rg p ≤ F := fun q1 q2 => CT_rgF h q1 q2
  obtain ⟨h1, h2, h3, h4, h5, h6, h7, h8⟩ := h
  refine ⟨h1, fun p q => ?_, h3, h4, h5, h6, h7, fun f hf => ?_⟩
  · rcases h2 p q with ⟨g1, g2⟩ | g | g | g
    · exact Or.inl ⟨ok1_pr g1 (hrg g2.2.2.2 (by omega)) (fun f hf => (hp f hf).2.1), g2⟩
    · exact Or.inr (Or.inl g)
    · exact Or.inr (Or.inr (Or.inl g))
    · exact Or.inr (Or.inr (Or.inr g))
  · obtain ⟨e1, e2, e3⟩ := hp f hf
    rw [e1, e2, e3]
    exact h8 f hf
theorem okt_ext {o' u' ht' rg' bk' : Nat → Int} {p : Nat} (h : okt o u F tm ht rg bk p) (hp : (p : Int) < N) (htm : tm ≤ N) (e : ∀ j : Nat, (j : Int) < N → o' j = o j ∧ u' j = u j ∧ bk' j = bk j) (e2 : ∀ j : Nat, 1 ≤ j → (j : Int) ≤ tm → ht' j = ht j ∧ rg' j = rg j ∧ bk' j = bk j) (e3 : 1 ≤ p → rg' p = rg p) : okt o' u' F tm ht' rg' bk' p := by
  obtain ⟨q1, q2, q3, q4, q5, q6, q7⟩ := h
  obtain ⟨a1, a2, a3⟩ := e p hp
  obtain ⟨b1, b2, b3⟩ := e2 (u p).toNat (by omega) (by omega)
  unfold okt
  rw [a2, a3, b1, b2, b3]
  refine ⟨q1, q2, q3, q4, fun z => ?_, fun z => by rw [e3 z]; exact q6 z, q7⟩
  obtain ⟨g1, g2, g3⟩ := q5 z
  exact ⟨g1, g2, by rw [(e (p - 1) (by omega)).1]; exact g3⟩
/-- the code grows by one order: what was ok stays ok -/
theorem okc_ext {o' u' ht' rg' bk' : Nat → Int} {p : Nat} (h : okc o u F tp tm pr pn ht rg bk p) (hp : (p : Int) < N) (htm : tm ≤ N) (e : ∀ j : Nat, (j : Int) < N → o' j = o j ∧ u' j = u j ∧ bk' j = bk j) (e1 : ∀ j : Nat, 1 ≤ j → (j : Int) ≤ N → ht' j = ht j ∧ rg' j = rg j) (e2 : ∀ j : Nat, 1 ≤ j → (j : Int) ≤ tm → bk' j = bk j) (e3 : o p ≠ 13 → bk (p + 1) = 0 → bk' (p + 1) = 0) : okc o' u' F tp tm pr pn ht' rg' bk' p := by
  have key : (pn p ∨ okt o u F tm ht rg bk p) → (pn p ∨ okt o' u' F tm ht' rg' bk' p) := fun z => z.imp id (fun z => okt_ext z hp htm e (fun j j1 j2 => ⟨(e1 j j1 (by omega)).1, (e1 j j1 (by omega)).2, e2 j j1 j2⟩) (fun z => (e1 p z (by omega)).2))
  obtain ⟨a1, a2, a3⟩ := e p hp
  rcases h with ⟨g1, g2, g3, g4, g5⟩ | ⟨g1, g2, g3, g4⟩ | ⟨g1, g2, g3, g4, g5, g6, g7, g8⟩ | ⟨g1, g2, g3⟩
  · obtain ⟨b1, b2⟩ := e1 p g5 (by omega)
    obtain ⟨c1, c2⟩ := e1 (p + 1) (by omega) (by omega)
    refine Or.inl ⟨?_, by rw [c2, b2]; exact g2, by rw [a3]; exact g3, fun z => e3 (by rw [← a1]; exact z) (g4 (by rw [← a1]; exact z)), g5⟩
    rw [a1, a2, b1, b2, c1]
    exact g1
  · obtain ⟨b1, b2⟩ := e1 p g4 (by omega)
    exact Or.inr (Or.inl ⟨by rw [a1]; exact g1, ⟨by rw [b1]; exact g2.1, by rw [b2]; exact g2.2⟩, by rw [a3]; exact g3, g4⟩)
  · obtain ⟨b1, b2⟩ := e1 p g7 (by omega)
    obtain ⟨c1, c2⟩ := e1 (p + 1) (by omega) (by omega)
    exact Or.inr (Or.inr (Or.inl ⟨by rw [a1]; exact g1, by rw [b1]; exact g2, by rw [c1]; exact g3, by rw [c2, b2]; exact g4, by rw [a3]; exact g5, e3 (by omega) g6, g7, key g8⟩))
  · exact Or.inr (Or.inr (Or.inr ⟨by rw [a1]; exact g1, fun z => by rw [(e1 p z (by omega)).1]; exact g2 z, key g3⟩))
/-- one order more -/
theorem CT_app (h : CT o u N F tp fr tm fb pr ow E pn ht rg bk) {w a y b fr' : Int} {pn' : Nat → Prop} (hfr : fr ≤ fr') (hpn : ∀ p, pn p → pn' p) (hy0 : 0 ≤ y) (hy1 : y ≤ fr' - E F.toNat) (hb : b ≠ 0 → tm < N ∧ o (N.toNat - 1) = 13 ∧ 2 ≤ N)
    (hok : okc (zp o N.toNat w) (zp u N.toNat a) F tp tm pr pn' (zp ht (N.toNat + 1) y) (zp rg (N.toNat + 1) F) (zp bk N.toNat b) N.toNat) : CT (zp o N.toNat w) (zp u N.toNat a) (N + 1) F tp fr' tm fb pr ow E pn' (zp ht (N.toNat + 1) y) (zp rg (N.toNat + 1) F) (zp bk N.toNat b) := by
  have hrgF : ∀ {p : Nat}, 1 ≤ p → (p : Int) ≤ N → rg p ≤ F := fun q1 q2 => CT_rgF h q1 q2
  obtain ⟨⟨n1, n2, n3, n4⟩, h2, h3, h4, h5, h6, ⟨h7, h8, h9⟩, h10⟩ := h
  have hN : (N + 1).toNat = N.toNat + 1 := by omega
  have eR : ∀ j : Nat, (j : Int) ≤ N → zp ht (N.toNat + 1) y j = ht j ∧ zp rg (N.toNat + 1) F j = rg j := fun j hj => ⟨zp_ne _ _ (by omega), zp_ne _ _ (by omega)⟩
  have eB : ∀ j : Nat, 1 ≤ j → (j : Int) ≤ tm → zp bk N.toNat b j = bk j := fun j j1 j2 => by
    by_cases hj : j = N.toNat
    · subst hj
      rw [zp_at, h3 _ (by omega)]
      by_cases hb0 : b = 0
      · exact hb0
      · have := (hb hb0).1
        omega
    · exact zp_ne _ _ hj
  refine ⟨⟨by omega, n2, n3, by omega⟩, fun p hp => ?_, fun p hp => ?_, ?_, fun p q p1 pq q1 => ?_, fun p p1 p2 => ?_, ⟨h7, h8, by omega⟩, fun f hf => ?_⟩
  · by_cases hpN : p = N.toNat
    · subst hpN
      exact hok
    · have hp2 : (p : Int) < N := by omega
      refine okc_pn (okc_ext (h2 p hp2) hp2 n4 (fun j hj => ⟨zp_ne _ _ (by omega), zp_ne _ _ (by omega), zp_ne _ _ (by omega)⟩) (fun j _ hj => eR j hj) eB (fun z1 z2 => ?_)) (hpn p)
      by_cases hq : p + 1 = N.toNat
      · rw [hq, zp_at]
        by_cases hb0 : b = 0
        · exact hb0
        · exact absurd (by rw [show p = N.toNat - 1 by omega]; exact (hb hb0).2.1) z1
      · rw [zp_ne _ _ hq]
        exact z2
  · rw [zp_ne _ _ (by omega)]
    exact h3 p (by omega)
  · rw [hN, zp_at]
  · by_cases hq : q = N.toNat + 1
    · subst hq
      rw [zp_at]
      by_cases hp : p = N.toNat + 1
      · subst hp
        rw [zp_at]
        omega
      · rw [zp_ne _ _ hp]
        exact hrgF p1 (by omega)
    · rw [zp_ne _ _ hq, zp_ne _ _ (by omega)]
      exact h5 p q p1 pq (by omega)
  · by_cases hq : p = N.toNat + 1
    · subst hq
      rw [zp_at, zp_at]
      exact ⟨n2, hy0, fun z => by omega, fun _ => hy1⟩
    · obtain ⟨e1, e2⟩ := eR p (by omega)
      rw [e1, e2]
      obtain ⟨g1, g2, g3, g4⟩ := h6 p p1 (by omega)
      exact ⟨g1, g2, g3, fun z => by have := g4 z; omega⟩
  · obtain ⟨⟨g1, g2⟩, g3, g4, g5, g6⟩ := h10 f hf
    obtain ⟨e1, e2⟩ := eR (fb f).toNat (by omega)
    rw [e1, e2, eB _ (by omega) (by omega)]
    exact ⟨⟨g1, g2⟩, g3, g4, g5, g6⟩
/-- an order that is no jump and no end -/
theorem CT_say (h : CT o u N F tp fr tm fb pr ow E pn ht rg bk) {w a y fr' : Int} (hfr : fr ≤ fr') (hy0 : 0 ≤ y) (hy1 : y ≤ fr' - E F.toNat) (hok : ok1 w a tp F pr (ht N.toNat) y) : CT (zp o N.toNat w) (zp u N.toNat a) (N + 1) F tp fr' tm fb pr ow E pn (zp ht (N.toNat + 1) y) (zp rg (N.toNat + 1) F) (zp bk N.toNat 0) ∧ zp ht (N.toNat + 1) y (N + 1).toNat = y := by
  obtain ⟨⟨n1, n2, n3, n4⟩, -, h3, h4, -⟩ := id h
  have hN : (N + 1).toNat = N.toNat + 1 := by omega
  refine ⟨CT_app h hfr (fun _ z => z) hy0 hy1 (fun z => absurd rfl z) (Or.inl ⟨?_, ?_, zp_at _ _ _, fun _ => ?_, by omega⟩), by rw [hN, zp_at]⟩
  · rw [zp_at, zp_at, zp_at, zp_ne ht _ (by omega), zp_ne rg _ (by omega), h4]
    exact hok
  · rw [zp_at, zp_ne rg _ (by omega), h4]
  · rw [zp_ne _ _ (by omega)]
    exact h3 _ (by omega)
/-- BRANCH, its target still open -/
theorem CT_br (h : CT o u N F tp fr tm fb pr ow E pn ht rg bk) {a fr' : Int} {pn' : Nat → Prop} (hfr : fr ≤ fr') (hpn : ∀ p, pn p → pn' p) (hN : pn' N.toNat) (hc : ht N.toNat = 1) : CT (zp o N.toNat 14) (zp u N.toNat a) (N + 1) F tp fr' tm fb pr ow E pn' (zp ht (N.toNat + 1) 0) (zp rg (N.toNat + 1) F) (zp bk N.toNat 0) ∧ zp ht (N.toNat + 1) 0 (N + 1).toNat = 0 := by
  obtain ⟨⟨n1, n2, n3, n4⟩, -, h3, h4, -, -, ⟨-, -, h9⟩, -⟩ := id h
  have hN' : (N + 1).toNat = N.toNat + 1 := by omega
  refine ⟨CT_app h hfr hpn (by omega) (by omega) (fun z => absurd rfl z) (Or.inr (Or.inr (Or.inl ⟨zp_at _ _ _, ?_, zp_at _ _ _, ?_, zp_at _ _ _, ?_, by omega, Or.inl hN⟩))), by rw [hN', zp_at]⟩
  · rw [zp_ne ht _ (by omega)]
    exact hc
  · rw [zp_at, zp_ne rg _ (by omega), h4]
  · rw [zp_ne _ _ (by omega)]
    exact h3 _ (by omega)
/-- GO, its target still open -/
theorem CT_go (h : CT o u N F tp fr tm fb pr ow E pn ht rg bk) {a fr' : Int} {pn' : Nat → Prop} (hfr : fr ≤ fr') (hpn : ∀ p, pn p → pn' p) (hN : pn' N.toNat) (hc : ht N.toNat = 0) : CT (zp o N.toNat 15) (zp u N.toNat a) (N + 1) F tp fr' tm fb pr ow E pn' (zp ht (N.toNat + 1) 0) (zp rg (N.toNat + 1) F) (zp bk N.toNat 0) ∧ zp ht (N.toNat + 1) 0 (N + 1).toNat = 0 := by
  obtain ⟨⟨n1, n2, n3, n4⟩, -, h3, h4, -, -, ⟨-, -, h9⟩, -⟩ := id h
  have hN' : (N + 1).toNat = N.toNat + 1 := by omega
  refine ⟨CT_app h hfr hpn (by omega) (by omega) (fun z => absurd rfl z) (Or.inr (Or.inr (Or.inr ⟨zp_at _ _ _, fun _ => ?_, Or.inl hN⟩))), by rw [hN', zp_at]⟩
  rw [zp_ne ht _ (by omega)]
  exact hc
/-- GO back to b, behind a STEP -/
theorem CT_bgo (h : CT o u N F tp fr tm fb pr ow E pn ht rg bk) {b fr' : Int} (hfr : fr ≤ fr') (htm : tm < N) (h13 : o (N.toNat - 1) = 13) (hN2 : 2 ≤ N) (hc : ht N.toNat = 0) (hb : (1 ≤ b ∧ b ≤ tm) ∧ ht b.toNat = 0 ∧ rg b.toNat = F ∧ bk b.toNat = 0) : CT (zp o N.toNat 15) (zp u N.toNat b) (N + 1) F tp fr' tm fb pr ow E pn (zp ht (N.toNat + 1) 0) (zp rg (N.toNat + 1) F) (zp bk N.toNat 1) ∧ zp ht (N.toNat + 1) 0 (N + 1).toNat = 0 := by
  obtain ⟨⟨n1, n2, n3, n4⟩, -, h3, h4, -, -, ⟨-, -, h9⟩, -⟩ := id h
  obtain ⟨⟨b1, b2⟩, b3, b4, b5⟩ := hb
  have hN' : (N + 1).toNat = N.toNat + 1 := by omega
  refine ⟨CT_app h hfr (fun _ z => z) (by omega) (by omega) (fun _ => ⟨htm, h13, hN2⟩) (Or.inr (Or.inr (Or.inr ⟨zp_at _ _ _, fun _ => ?_, Or.inr ?_⟩))), by rw [hN', zp_at]⟩
  · rw [zp_ne ht _ (by omega)]
    exact hc
  · unfold okt
    rw [zp_at u, zp_at bk]
    refine ⟨⟨b1, b2⟩, ?_, ?_, fun z => by omega, fun _ => ⟨by omega, by omega, ?_⟩, fun _ => ?_, fun z => by omega⟩
    · rw [zp_ne ht _ (by omega)]; exact b3
    · rw [zp_ne bk _ (by omega)]; exact b5
    · rw [zp_ne o _ (by omega)]; exact h13
    · rw [zp_ne rg _ (by omega), zp_ne rg _ (by omega), h4]; exact b4
/-- an open jump gets its target: the place where the next order will stand -/
theorem CT_patch (h : CT o u N F tp fr tm fb pr ow E pn ht rg bk) {p0 : Nat} {pn' : Nat → Prop} (hp0 : (p0 : Int) < N) (ho : o p0 = 14 ∨ o p0 = 15) (hb : bk p0 = 0) (hr : 1 ≤ p0 → rg p0 = F) (hc : ht N.toNat = 0) (hpn : ∀ p, p ≠ p0 → pn p → pn' p) : CT o (zp u p0 N) N F tp fr N fb pr ow E pn' ht rg bk := by
  obtain ⟨⟨n1, n2, n3, n4⟩, h2, h3, h4, h5, h6, h7, h8⟩ := CT_tm h (h.1.2.2.2) (Int.le_refl N)
  refine ⟨⟨n1, n2, n3, n4⟩, fun p hp => ?_, h3, h4, h5, h6, h7, h8⟩
  by_cases e : p = p0
  · subst e
    have hk : okt o (zp u p N) F N ht rg bk p := by
      unfold okt
      rw [zp_at]
      exact ⟨⟨n1, Int.le_refl N⟩, hc, h3 _ (by omega), fun _ => hp, fun z => absurd hb z, fun z => by rw [h4, hr z], fun _ => h4⟩
    rcases h2 p hp with ⟨g1, g2⟩ | ⟨g1, g2⟩ | ⟨g1, g2, g3, g4, g5, g6, g7, g8⟩ | ⟨g1, g2, g3⟩
    · exfalso
      have := ok1_w g1
      omega
    · exfalso
      omega
    · exact Or.inr (Or.inr (Or.inl ⟨g1, g2, g3, g4, g5, g6, g7, Or.inr hk⟩))
    · exact Or.inr (Or.inr (Or.inr ⟨g1, g2, Or.inr hk⟩))
  · have eu : zp u p0 N p = u p := zp_ne _ _ e
    have hk : okt o u F N ht rg bk p → okt o (zp u p0 N) F N ht rg bk p := fun z => by
      unfold okt at z ⊢
      rw [eu]
      exact z
    rcases h2 p hp with ⟨g1, g2⟩ | g | ⟨g1, g2, g3, g4, g5, g6, g7, g8⟩ | ⟨g1, g2, g3⟩
    · exact Or.inl ⟨by rw [eu]; exact g1, g2⟩
    · exact Or.inr (Or.inl g)
    · exact Or.inr (Or.inr (Or.inl ⟨g1, g2, g3, g4, g5, g6, g7, g8.imp (hpn p e) hk⟩))
    · exact Or.inr (Or.inr (Or.inr ⟨g1, g2, g3.imp (hpn p e) hk⟩))
/-- BACK, and the function is whole -/
theorem CT_fend (h : CT o u N F tp fr tm fb pr ow E pn ht rg bk) {a fr' : Int} {pn' : Nat → Prop} (hF : F < 6) (hfr : fr ≤ fr') (hpn : ∀ p, pn p → pn' p) (h0 : pn' 0) (hc : 1 ≤ ht N.toNat) (hfb : (1 ≤ fb F.toNat ∧ fb F.toNat ≤ tm) ∧ rg (fb F.toNat).toNat = F ∧ ht (fb F.toNat).toNat = 0 ∧ bk (fb F.toNat).toNat = 0) (hpr : 0 ≤ pr F.toNat ∧ pr F.toNat ≤ ow F.toNat ∧ ow F.toNat ≤ 12) :
    CT (zp o N.toNat 12) (zp u N.toNat a) (N + 1) (F + 1) tp fr' tm fb pr ow (zp E (F.toNat + 1) fr') pn' (zp ht (N.toNat + 1) 0) (zp rg (N.toNat + 1) (F + 1)) bk ∧ zp ht (N.toNat + 1) 0 (N + 1).toNat = 0 := by
  have hrgF : ∀ {p : Nat}, 1 ≤ p → (p : Int) ≤ N → rg p ≤ F := fun q1 q2 => CT_rgF h q1 q2
  obtain ⟨⟨n1, n2, n3, n4⟩, h2, h3, h4, h5, h6, ⟨h7, h8, h9⟩, h10⟩ := h
  have hN : (N + 1).toNat = N.toNat + 1 := by omega
  have hF1 : (F + 1).toNat = F.toNat + 1 := by omega
  have eR : ∀ j : Nat, (j : Int) ≤ N → zp ht (N.toNat + 1) 0 j = ht j ∧ zp rg (N.toNat + 1) (F + 1) j = rg j := fun j hj => ⟨zp_ne _ _ (by omega), zp_ne _ _ (by omega)⟩
  have okt' : ∀ p : Nat, 1 ≤ p → (p : Int) < N → okt o u F tm ht rg bk p → okt (zp o N.toNat 12) (zp u N.toNat a) (F + 1) tm (zp ht (N.toNat + 1) 0) (zp rg (N.toNat + 1) (F + 1)) bk p := fun p p1 hp z => by
    have z2 := okt_ext (o' := zp o N.toNat 12) (u' := zp u N.toNat a) (ht' := zp ht (N.toNat + 1) 0) (rg' := zp rg (N.toNat + 1) (F + 1)) (bk' := bk) z hp n4 (fun j hj => ⟨zp_ne _ _ (by omega), zp_ne _ _ (by omega), rfl⟩) (fun j _ hj => ⟨(eR j (by omega)).1, (eR j (by omega)).2, rfl⟩) (fun _ => (eR p (by omega)).2)
    obtain ⟨q1, q2, q3, q4, q5, q6, q7⟩ := z2
    exact ⟨q1, q2, q3, q4, q5, q6, fun e => by omega⟩
  refine ⟨⟨⟨by omega, by omega, by omega, by omega⟩, fun p hp => ?_, fun p hp => h3 p (by omega), by rw [hN, zp_at], fun p q p1 pq q1 => ?_, fun p p1 p2 => ?_, ⟨fun f hf => ?_, ?_, ?_⟩, fun f hf => ?_⟩, by rw [hN, zp_at]⟩
  · by_cases hpN : p = N.toNat
    · subst hpN
      refine Or.inr (Or.inl ⟨zp_at _ _ _, ⟨?_, ?_⟩, h3 _ (by omega), by omega⟩)
      · rw [(eR _ (by omega)).1]
        exact hc
      · rw [(eR _ (by omega)).2, h4]
        omega
    · have hp2 : (p : Int) < N := by omega
      by_cases hp0 : p = 0
      · subst hp0
        rcases h2 0 hp2 with g | g | g | ⟨g1, g2, g3⟩
        · exact absurd g.2.2.2.2 (by omega)
        · exact absurd g.2.2.2 (by omega)
        · exact absurd g.2.2.2.2.2.2.1 (by omega)
        · exact Or.inr (Or.inr (Or.inr ⟨by rw [zp_ne _ _ (by omega)]; exact g1, fun z => by omega, Or.inl h0⟩))
      · have p1 : 1 ≤ p := by omega
        obtain ⟨b1, b2⟩ := eR p (by omega)
        obtain ⟨c1, c2⟩ := eR (p + 1) (by omega)
        have a1 : zp o N.toNat 12 p = o p := zp_ne _ _ hpN
        have a2 : zp u N.toNat a p = u p := zp_ne _ _ hpN
        rcases h2 p hp2 with ⟨g1, g2, g3, g4, g5⟩ | ⟨g1, g2, g3, g4⟩ | ⟨g1, g2, g3, g4, g5, g6, g7, g8⟩ | ⟨g1, g2, g3⟩
        · exact Or.inl ⟨by rw [a1, a2, b1, b2, c1]; exact g1, by rw [c2, b2]; exact g2, g3, fun z => g4 (by rw [← a1]; exact z), g5⟩
        · exact Or.inr (Or.inl ⟨by rw [a1]; exact g1, ⟨by rw [b1]; exact g2.1, by rw [b2]; have := g2.2; omega⟩, g3, g4⟩)
        · exact Or.inr (Or.inr (Or.inl ⟨by rw [a1]; exact g1, by rw [b1]; exact g2, by rw [c1]; exact g3, by rw [c2, b2]; exact g4, g5, g6, g7, g8.imp (hpn p) (okt' p p1 hp2)⟩))
        · exact Or.inr (Or.inr (Or.inr ⟨by rw [a1]; exact g1, fun z => by rw [b1]; exact g2 z, g3.imp (hpn p) (okt' p p1 hp2)⟩))
  · by_cases hq : q = N.toNat + 1
    · subst hq
      rw [zp_at]
      by_cases hp : p = N.toNat + 1
      · subst hp
        rw [zp_at]
        omega
      · rw [zp_ne _ _ hp]
        have := hrgF p1 (show (p : Int) ≤ N by omega)
        omega
    · rw [zp_ne _ _ hq, zp_ne _ _ (by omega)]
      exact h5 p q p1 pq (by omega)
  · by_cases hq : p = N.toNat + 1
    · subst hq
      rw [zp_at, zp_at, hF1, zp_at]
      exact ⟨by omega, by omega, fun z => by omega, fun _ => by omega⟩
    · obtain ⟨e1, e2⟩ := eR p (by omega)
      rw [e1, e2]
      obtain ⟨g1, g2, g3, g4⟩ := h6 p p1 (by omega)
      have hle := hrgF p1 (show (p : Int) ≤ N by omega)
      refine ⟨g1, g2, fun z => ?_, fun z => by omega⟩
      by_cases hz : rg p = F
      · have := g4 hz
        rw [hz, hF1, zp_at, zp_ne _ _ (by omega)]
        omega
      · have := g3 (by omega)
        rw [zp_ne _ _ (by omega), zp_ne _ _ (by omega)]
        exact this
  · by_cases hz : (f : Int) = F
    · rw [show f + 1 = F.toNat + 1 by omega, zp_at, zp_ne _ _ (by omega), show f = F.toNat by omega]
      omega
    · rw [zp_ne _ _ (by omega), zp_ne _ _ (by omega)]
      exact h7 f (by omega)
  · rw [zp_ne _ _ (by omega)]
    exact h8
  · rw [hF1, zp_at]
    exact Int.le_refl _
  · by_cases hz : (f : Int) = F
    · have hf : f = F.toNat := by omega
      subst hf
      obtain ⟨⟨q1, q2⟩, q3, q4, q5⟩ := hfb
      obtain ⟨e1, e2⟩ := eR (fb F.toNat).toNat (by omega)
      rw [e1, e2]
      exact ⟨⟨q1, q2⟩, by omega, q4, q5, hpr⟩
    · obtain ⟨⟨g1, g2⟩, g3, g4, g5, g6⟩ := h10 f (by omega)
      obtain ⟨e1, e2⟩ := eR (fb f).toNat (by omega)
      rw [e1, e2]
      exact ⟨⟨g1, g2⟩, g3, g4, g5, g6⟩
end CT1
/-- the whole code: no jump is open, the last order is DONE -/
def FI (o u : Nat → Int) (N F tp : Int) (fb pr ow E : Nat → Int) (ht rg bk : Nat → Int) : Prop :=
  (2 ≤ N ∧ 0 ≤ F ∧ F ≤ 6) ∧ o (N - 1).toNat = 16 ∧
  (∀ p : Nat, (p : Int) < N - 1 → okc o u F tp (N - 1) pr (fun _ => False) ht rg bk p) ∧
  (∀ p q : Nat, 1 ≤ p → p ≤ q → (q : Int) ≤ N - 1 → rg p ≤ rg q) ∧
  (∀ p : Nat, 1 ≤ p → (p : Int) ≤ N - 1 → 0 ≤ rg p ∧ rg p ≤ F ∧ 0 ≤ ht p ∧ ht p ≤ E (rg p + 1).toNat - E (rg p).toNat) ∧
  ((∀ f : Nat, (f : Int) ≤ F → E f ≤ E (f + 1)) ∧ 0 ≤ E 0 ∧ E (F + 1).toNat ≤ 3000) ∧
  (∀ f : Nat, (f : Int) < F → (1 ≤ fb f ∧ fb f ≤ N - 1) ∧ rg (fb f).toNat = f ∧ ht (fb f).toNat = 0 ∧ bk (fb f).toNat = 0 ∧ (0 ≤ pr f ∧ pr f ≤ ow f ∧ ow f ≤ 12)) ∧ bk (N - 1).toNat = 0
theorem CT_done {o u : Nat → Int} {N F tp fr tm a : Int} {fb pr ow E : Nat → Int} {pn : Nat → Prop} {ht rg bk : Nat → Int} (h : CT o u N F tp fr tm fb pr ow E pn ht rg bk) (hpn : ∀ p, ¬ pn p) (hfr : fr ≤ 3000) : FI (zp o N.toNat 16) (zp u N.toNat a) (N + 1) F tp fb pr ow (zp E (F.toNat + 1) fr) ht rg bk := by
  have hrgF : ∀ {p : Nat}, 1 ≤ p → (p : Int) ≤ N → rg p ≤ F := fun q1 q2 => CT_rgF h q1 q2
  obtain ⟨⟨n1, n2, n3, n4⟩, h2, h3, h4, h5, h6, ⟨h7, h8, h9⟩, h10⟩ := h
  have hF1 : (F + 1).toNat = F.toNat + 1 := by omega
  have eN : N + 1 - 1 = N := by omega
  unfold FI
  rw [eN]
  refine ⟨⟨by omega, n2, n3⟩, zp_at _ _ _, fun p hp => ?_, h5, fun p p1 p2 => ?_, ⟨fun f hf => ?_, ?_, ?_⟩, fun f hf => ?_, h3 _ (by omega)⟩
  · have := okc_tm (okc_ext (o' := zp o N.toNat 16) (u' := zp u N.toNat a) (ht' := ht) (rg' := rg) (bk' := bk) (h2 p hp) hp n4 (fun j hj => ⟨zp_ne _ _ (by omega), zp_ne _ _ (by omega), rfl⟩) (fun _ _ _ => ⟨rfl, rfl⟩) (fun _ _ _ => rfl) (fun _ z => z)) n4
    exact okc_pn this (fun z => absurd z (hpn p))
  · obtain ⟨g1, g2, g3, g4⟩ := h6 p p1 p2
    have hle := hrgF p1 p2
    refine ⟨g1, hle, g2, ?_⟩
    by_cases hz : rg p = F
    · have := g4 hz
      rw [hz, hF1, zp_at, zp_ne _ _ (by omega)]
      exact this
    · have := g3 (by omega)
      rw [zp_ne _ _ (by omega), zp_ne _ _ (by omega)]
      exact this
  · by_cases hz : (f : Int) = F
    · rw [show f + 1 = F.toNat + 1 by omega, zp_at, zp_ne _ _ (by omega), show f = F.toNat by omega]
      omega
    · rw [zp_ne _ _ (by omega), zp_ne _ _ (by omega)]
      exact h7 f (by omega)
  · rw [zp_ne _ _ (by omega)]
    exact h8
  · rw [hF1, zp_at]
    exact hfr
  · obtain ⟨⟨g1, g2⟩, g3⟩ := h10 f hf
    exact ⟨⟨g1, by omega⟩, g3⟩
