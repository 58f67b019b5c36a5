/-! The first call on fresh objects: check() on the empty text -/
theorem va_up_up {α : Type} (f : Nat → α) (k : Nat) (x y : α) : va_up (va_up f k x) k y = va_up f k y := by
  funext i
  by_cases h : i = k
  · subst h; rw [va_up_self, va_up_self]
  · rw [va_up_ne _ _ h, va_up_ne _ _ h, va_up_ne _ _ h]
theorem va_up_id {α : Type} (f : Nat → α) (k : Nat) : va_up f k (f k) = f := by
  funext i
  by_cases h : i = k
  · subst h; rw [va_up_self]
  · rw [va_up_ne _ _ h]
section P1A
variable {d mi pc : Nat} {L : pm_L} {S : List Value} {h : pm_H} {Q : Option Value → pm_H → Prop} {pc' : Nat} {L' : pm_L} {S' : List Value} {h' : pm_H}
theorem px_sg (k k' : Nat) (hs : ∀ n, pm_run pm_swA (n + k) d mi pc L S h = pm_run pm_swA (n + k') d mi pc' L' S' h') (q : px d mi pc' L' S' h' Q) : px d mi pc L S h Q := by
  obtain ⟨n, v, h1, h2, h3⟩ := q
  exact ⟨n + k, v, h1, (hs n).trans (px_mono _ n (n + k') _ _ _ _ _ _ _ h2 (by omega)), h3⟩
theorem px_iastore {a : Nat} {x j : Int32} (hf : pm_fd (pm_code mi) pc = some .iastore) (ha : pm_isA pm_swA a 1 = true) (hj : pm_inb j (pm_sh pm_swA a).2 = true) (q : px d mi (pc + 1) L S (pm_setI h a j.toNatClampNeg x) Q) : px d mi pc L (.int x :: .int j :: .ref a :: S) h Q := by
  refine px_st ?_ q
  unfold pm_step
  rw [hf]
  simp only [pm_push, pm_ari, pm_br, pm_sto, pm_read, pm_write, ha, hj, Bool.and_self, cond_true, pm_ln]
theorem px_gr {a ci k r idx : Nat} {ty : FieldType} (hf : pm_fd (pm_code mi) pc = some (.getfield idx)) (hg : pm_gf (pm_ow mi) idx = some (ci, k)) (ha : Nat.blt a 1000 = true) (ho : pm_isO pm_swA a ci = true) (hty : (pm_ft ci)[k]? = some ty) (hc : pm_cat ty = 2) (hR : h.2.2 a k = some r) (q : px d mi (pc + 3) L (.ref r :: S) h Q) : px d mi pc L (.ref a :: S) h Q := by
  refine px_st ?_ q
  unfold pm_step
  rw [hf]
  simp only [pm_push, pm_ari, pm_br, pm_sto, pm_read, ha, cond_true, hg, ho, hty, pm_get, hc, hR, Option.map_some, pm_ln]
end P1A
theorem ck_fill {d a m : Nat} {I : Nat → Nat → Int32} {J : Nat → Nat → Int64} {R : Nat → Nat → Option Nat} {Q : Option Value → pm_H → Prop} (ha : pm_isA pm_swA a 1 = true) (hm : (pm_sh pm_swA a).2 = m) (hm2 : m < 2 ^ 31) (q : ∀ F, Q none (va_up I a F, J, R)) :
    ∀ r k F, k + r = m → px d 170 5 [(2, .int (nI k)), (3, .int (nI m)), (0, .ref a), (1, .int 0)] [] (va_up I a F, J, R) Q := by
  intro r
  induction r with
  | zero =>
    intro k F hk
    have hk : k = m := by omega
    subst hk
    refine px_seg 3 (pc' := bif pm_c2 .ge (nI k) (nI k) then 20 else 10) (L' := [(2, .int (nI k)), (3, .int (nI k)), (0, .ref a), (1, .int 0)]) (S' := []) (h' := (va_up I a F, J, R)) (fun _ => rfl) ?_
    rw [pb_ge (by omega) (by omega), decide_eq_true (Nat.le_refl k)]
    exact px_ret rfl (q F)
  | succ r ih =>
    intro k F hk
    refine px_seg 3 (pc' := bif pm_c2 .ge (nI k) (nI m) then 20 else 10) (L' := [(2, .int (nI k)), (3, .int (nI m)), (0, .ref a), (1, .int 0)]) (S' := []) (h' := (va_up I a F, J, R)) (fun _ => rfl) ?_
    rw [pb_ge (by omega) (by omega), decide_eq_false (show ¬ m ≤ k by omega)]
    refine px_seg 3 (pc' := 13) (L' := [(2, .int (nI k)), (3, .int (nI m)), (0, .ref a), (1, .int 0)]) (S' := [.int 0, .int (nI k), .ref a]) (h' := (va_up I a F, J, R)) (fun _ => rfl) ?_
    refine px_iastore (a := a) (x := 0) (j := nI k) (S := []) rfl ha (by rw [hm]; exact pb_inb (by omega) hm2) ?_
    rw [nI_clamp (by omega)]
    refine px_seg 2 (pc' := 5) (L' := [(2, .int (nI k + 1)), (3, .int (nI m)), (0, .ref a), (1, .int 0)]) (S' := []) (h' := (va_up (va_up I a F) a (va_up ((va_up I a F) a) k 0), J, R)) (fun _ => rfl) ?_
    rw [nI_1, va_up_up, va_up_self]
    exact ih (k + 1) _ (by omega)
theorem ck_170 {d : Nat} {I : Nat → Nat → Int32} {J : Nat → Nat → Int64} {R : Nat → Nat → Option Nat} {Q : Option Value → pm_H → Prop} (q : ∀ F, Q none (va_up I 29 F, J, R)) : px d 170 0 (lv_args 0 [.ref 29, .int 0]) [] (I, J, R) Q := by
  refine px_seg 5 (pc' := 5) (L' := [(3, .int (nI 2560)), (2, .int (nI 0)), (0, .ref 29), (1, .int 0)]) (S' := []) (h' := (I, J, R)) (fun _ => rfl) ?_
  refine px_seg 3 (pc' := 10) (L' := [(3, .int (nI 2560)), (2, .int (nI 0)), (0, .ref 29), (1, .int 0)]) (S' := []) (h' := (I, J, R)) (fun _ => rfl) ?_
  refine px_seg 3 (pc' := 13) (L' := [(3, .int (nI 2560)), (2, .int (nI 0)), (0, .ref 29), (1, .int 0)]) (S' := [.int 0, .int (nI 0), .ref 29]) (h' := (I, J, R)) (fun _ => rfl) ?_
  refine px_iastore (a := 29) (x := 0) (j := nI 0) (S := []) rfl rfl rfl ?_
  refine px_seg 2 (pc' := 5) (L' := [(2, .int (nI 1)), (3, .int (nI 2560)), (0, .ref 29), (1, .int 0)]) (S' := []) (h' := (va_up I 29 (va_up (I 29) 0 0), J, R)) (fun _ => rfl) ?_
  exact ck_fill (m := 2560) rfl rfl (by decide) q 2559 1 _ rfl
theorem ck_zero {d : Nat} {I : Nat → Nat → Int32} {J : Nat → Nat → Int64} {R : Nat → Nat → Option Nat} {Q : Option Value → pm_H → Prop} (hR : R 39 45 = some 61) (q : ∀ F, px d 48 249 [(1, .int (nI 2560)), (0, .ref 39)] [] (va_up I 61 F, J, R) Q) :
    ∀ r k F, k + r = 2560 → px d 48 227 [(1, .int (nI k)), (0, .ref 39)] [] (va_up I 61 F, J, R) Q := by
  intro r
  induction r with
  | zero =>
    intro k F hk
    have hk : k = 2560 := by omega
    subst hk
    refine px_seg 2 (pc' := 229) (L' := [(1, .int (nI 2560)), (0, .ref 39)]) (S' := [.ref 39, .int (nI 2560)]) (h' := (va_up I 61 F, J, R)) (fun _ => rfl) ?_
    refine px_gr (a := 39) (r := 61) rfl rfl rfl rfl rfl rfl hR ?_
    refine px_seg 2 (pc' := 249) (L' := [(1, .int (nI 2560)), (0, .ref 39)]) (S' := []) (h' := (va_up I 61 F, J, R)) (fun _ => rfl) ?_
    exact q F
  | succ r ih =>
    intro k F hk
    refine px_seg 2 (pc' := 229) (L' := [(1, .int (nI k)), (0, .ref 39)]) (S' := [.ref 39, .int (nI k)]) (h' := (va_up I 61 F, J, R)) (fun _ => rfl) ?_
    refine px_gr (a := 39) (r := 61) rfl rfl rfl rfl rfl rfl hR ?_
    refine px_seg 2 (pc' := bif pm_c2 .ge (nI k) (nI 2560) then 249 else 236) (L' := [(1, .int (nI k)), (0, .ref 39)]) (S' := []) (h' := (va_up I 61 F, J, R)) (fun _ => rfl) ?_
    rw [pb_ge (by omega) (by decide), decide_eq_false (show ¬ 2560 ≤ k by omega)]
    refine px_seg 1 (pc' := 237) (L' := [(1, .int (nI k)), (0, .ref 39)]) (S' := [.ref 39]) (h' := (va_up I 61 F, J, R)) (fun _ => rfl) ?_
    refine px_gr (a := 39) (r := 61) rfl rfl rfl rfl rfl rfl hR ?_
    refine px_seg 2 (pc' := 242) (L' := [(1, .int (nI k)), (0, .ref 39)]) (S' := [.int 0, .int (nI k), .ref 61]) (h' := (va_up I 61 F, J, R)) (fun _ => rfl) ?_
    refine px_iastore (a := 61) (x := 0) (j := nI k) (S := []) rfl rfl (pb_inb (show k < 2560 by omega) (by decide)) ?_
    rw [nI_clamp (by omega)]
    refine px_seg 2 (pc' := 227) (L' := [(1, .int (nI k + 1)), (0, .ref 39)]) (S' := []) (h' := (va_up (va_up I 61 F) 61 (va_up ((va_up I 61 F) 61) k 0), J, R)) (fun _ => rfl) ?_
    rw [nI_1, va_up_up, va_up_self]
    exact ih (k + 1) _ (by omega)
