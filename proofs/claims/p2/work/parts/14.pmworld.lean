/-! The world of the pure machine: cells by number, shapes fixed, contents from the three functions -/
def pm_cat (ty : FieldType) : Nat := match ty with
  | .long => 1
  | .object _ => 2
  | .array _ => 2
  | _ => 0
def pm_fv (rho : Nat → Nat) (h : pm_H) (i k : Nat) (ty : FieldType) : Value := match pm_cat ty with
  | 0 => .int (h.1 i k)
  | 1 => .long (h.2.1 i k)
  | _ => va_rf ((h.2.2 i k).map rho)
def pm_fs (rho : Nat → Nat) (h : pm_H) (i ci : Nat) : List Value := (pm_ft ci).mapIdx (fun k ty => pm_fv rho h i k ty)
/-- a cell: shape (1, n): ints; (2, n): chars; (3, n): booleans; (4, n): longs; (5, n): references to constants; (10 + ci, _): an object of class ci -/
def pm_E (cy : Nat → ClassId) (rho : Nat → Nat) (h : pm_H) (sh : Nat × Nat) (i : Nat) : va_E := match sh.1 with
  | 0 => .inl (cy 0, sh.2, .inl (h.1 i))
  | 1 => .inl (cy 1, sh.2, .inl (h.1 i))
  | 2 => .inl (cy 2, sh.2, .inl (h.1 i))
  | 3 => .inl (cy 3, sh.2, .inl (h.1 i))
  | 4 => .inl (cy 4, sh.2, .inr (.inl (h.2.1 i)))
  | 5 => .inl (cy 5, sh.2, .inr (.inr (.inr (.inr (fun j => (h.2.2 i j).map rho)))))
  | k + 6 => .inr (k - 4, pm_fs rho h i (k - 4))
def pm_sh (sw : List (Nat × Nat)) (i : Nat) : Nat × Nat := sw.getD i (0, 0)
def pm_W (cy : Nat → ClassId) (rho : Nat → Nat) (sw : List (Nat × Nat)) (h : pm_H) : va_W := (List.range sw.length).map (fun i => (rho i, pm_E cy rho h (pm_sh sw i) i))
/-- the array classes by their kinds; kind 0 is byte -/
def pm_tys (cy : Nat → ClassId) : List (ClassId × FieldType) := [(cy 0, .byte), (cy 1, .int), (cy 2, .char), (cy 3, .boolean), (cy 4, .long), (cy 5, .object "QuietChecker$Kind")]
def pm_setI (h : pm_H) (i k : Nat) (v : Int32) : pm_H := (va_up h.1 i (va_up (h.1 i) k v), h.2.1, h.2.2)
def pm_setL (h : pm_H) (i k : Nat) (v : Int64) : pm_H := (h.1, va_up h.2.1 i (va_up (h.2.1 i) k v), h.2.2)
def pm_setR (h : pm_H) (i k : Nat) (v : Option Nat) : pm_H := (h.1, h.2.1, va_up h.2.2 i (va_up (h.2.2 i) k v))
/-- two heaps agree but at cell i -/
def pm_but (i : Nat) (h h' : pm_H) : Prop := ∀ j, j ≠ i → h'.1 j = h.1 j ∧ h'.2.1 j = h.2.1 j ∧ h'.2.2 j = h.2.2 j
theorem pm_but_I (h : pm_H) (i k : Nat) (v : Int32) : pm_but i h (pm_setI h i k v) := fun j hj => ⟨va_up_ne _ _ hj, rfl, rfl⟩
theorem pm_but_L (h : pm_H) (i k : Nat) (v : Int64) : pm_but i h (pm_setL h i k v) := fun j hj => ⟨rfl, va_up_ne _ _ hj, rfl⟩
theorem pm_but_R (h : pm_H) (i k : Nat) (v : Option Nat) : pm_but i h (pm_setR h i k v) := fun j hj => ⟨rfl, rfl, va_up_ne _ _ hj⟩
section PM3
variable {cy : Nat → ClassId} {rho : Nat → Nat} {sw : List (Nat × Nat)} {h h' : pm_H}
theorem pm_W_at {i : Nat} (hi : i < sw.length) : (pm_W cy rho sw h)[i]? = some (rho i, pm_E cy rho h (pm_sh sw i) i) := by
  unfold pm_W
  rw [List.getElem?_map, List.getElem?_range hi]
  rfl
theorem pm_W_len : (pm_W cy rho sw h).length = sw.length := by
  unfold pm_W
  rw [List.length_map, List.length_range]
theorem pm_E_but {sh : Nat × Nat} {i j : Nat} (hb : pm_but i h h') (hj : j ≠ i) : pm_E cy rho h' sh j = pm_E cy rho h sh j := by
  obtain ⟨h1, h2, h3⟩ := hb j hj
  unfold pm_E pm_fs pm_fv
  rw [h1, h2, h3]
theorem pm_W_set {i : Nat} (hb : pm_but i h h') (hi : i < sw.length) {e : va_E} (he : e = pm_E cy rho h' (pm_sh sw i) i) : (pm_W cy rho sw h).set i (rho i, e) = pm_W cy rho sw h' := by
  apply List.ext_getElem?
  intro j
  rw [List.getElem?_set]
  by_cases hij : i = j
  · subst hij
    rw [if_pos rfl, if_pos (by rw [pm_W_len]; exact hi), pm_W_at hi, he]
  · rw [if_neg hij]
    rcases Nat.lt_or_ge j sw.length with hl | hl
    · rw [pm_W_at hl, pm_W_at hl, pm_E_but hb (fun z => hij z.symm)]
    · rw [List.getElem?_eq_none (by rw [pm_W_len]; exact hl), List.getElem?_eq_none (by rw [pm_W_len]; exact hl)]
theorem pm_fs_at {i ci k : Nat} {ty : FieldType} (hk : (pm_ft ci)[k]? = some ty) : (pm_fs rho h i ci)[k]? = some (pm_fv rho h i k ty) := by
  unfold pm_fs
  rw [List.getElem?_mapIdx, hk]
  rfl
theorem pm_fs_len {i ci : Nat} : (pm_fs rho h i ci).length = (pm_ft ci).length := by
  unfold pm_fs
  rw [List.length_mapIdx]
/-- the field k of the object i gets v; all else stays -/
theorem pm_fs_set {i ci k : Nat} {ty : FieldType} {v : Value} (hk : (pm_ft ci)[k]? = some ty) (hv : pm_fv rho h' i k ty = v) (ho : ∀ j, j ≠ k → h'.1 i j = h.1 i j ∧ h'.2.1 i j = h.2.1 i j ∧ h'.2.2 i j = h.2.2 i j) : (pm_fs rho h i ci).set k v = pm_fs rho h' i ci := by
  apply List.ext_getElem?
  intro j
  rw [List.getElem?_set]
  by_cases hkj : k = j
  · subst hkj
    have hl : k < (pm_ft ci).length := (List.getElem?_eq_some_iff.mp hk).1
    rw [if_pos rfl, if_pos (by rw [pm_fs_len]; exact hl), pm_fs_at hk, hv]
  · rw [if_neg hkj]
    obtain ⟨h1, h2, h3⟩ := ho j (fun z => hkj z.symm)
    unfold pm_fs pm_fv
    rw [List.getElem?_mapIdx, List.getElem?_mapIdx, h1, h2, h3]
theorem pm_set_oI (h : pm_H) (i k : Nat) (v : Int32) : ∀ j, j ≠ k → (pm_setI h i k v).1 i j = h.1 i j ∧ (pm_setI h i k v).2.1 i j = h.2.1 i j ∧ (pm_setI h i k v).2.2 i j = h.2.2 i j := by
  intro j hj
  refine ⟨?_, rfl, rfl⟩
  show va_up h.1 i (va_up (h.1 i) k v) i j = _
  rw [va_up_self, va_up_ne _ _ hj]
theorem pm_set_oL (h : pm_H) (i k : Nat) (v : Int64) : ∀ j, j ≠ k → (pm_setL h i k v).1 i j = h.1 i j ∧ (pm_setL h i k v).2.1 i j = h.2.1 i j ∧ (pm_setL h i k v).2.2 i j = h.2.2 i j := by
  intro j hj
  refine ⟨rfl, ?_, rfl⟩
  show va_up h.2.1 i (va_up (h.2.1 i) k v) i j = _
  rw [va_up_self, va_up_ne _ _ hj]
theorem pm_set_oR (h : pm_H) (i k : Nat) (v : Option Nat) : ∀ j, j ≠ k → (pm_setR h i k v).1 i j = h.1 i j ∧ (pm_setR h i k v).2.1 i j = h.2.1 i j ∧ (pm_setR h i k v).2.2 i j = h.2.2 i j := by
  intro j hj
  refine ⟨rfl, rfl, ?_⟩
  show va_up h.2.2 i (va_up (h.2.2 i) k v) i j = _
  rw [va_up_self, va_up_ne _ _ hj]
end PM3
/-- what a class's tables say, all at once -/
def pm_clN (ci : Nat) : vw_C := pm_cl.getD ci ("", fun _ => ("", "", "", false), 0)
theorem pm_cl_at {ci : Nat} (h : ci < 7) : pm_cl[ci]? = some (pm_clN ci) := by
  match ci, h with
  | 0, _ => rfl
  | 1, _ => rfl
  | 2, _ => rfl
  | 3, _ => rfl
  | 4, _ => rfl
  | 5, _ => rfl
  | 6, _ => rfl
theorem pm_cl_nm {ci : Nat} (h : ci < 7) : ∀ a, a < (pm_clN ci).2.2 → ∀ b, b < (pm_clN ci).2.2 → a ≠ b → ((pm_clN ci).2.1 a).2.1 ≠ ((pm_clN ci).2.1 b).2.1 := by
  match ci, h with
  | 0, _ => exact pm_nm0
  | 1, _ => exact pm_nm1
  | 2, _ => exact pm_nm2
  | 3, _ => exact pm_nm3
  | 4, _ => exact pm_nm4
  | 5, _ => exact pm_nm5
  | 6, _ => exact pm_nm6
def pm_clY (ci : Nat) : Nat → FieldType := match ci with
  | 0 => pm_y0
  | 1 => pm_y1
  | 2 => pm_y2
  | 3 => pm_y3
  | 4 => pm_y4
  | 5 => pm_y5
  | _ => pm_y6
theorem pm_cl_ty {ci : Nat} (h : ci < 7) : ∀ k, k < (pm_clN ci).2.2 → parseFieldDescriptor ((pm_clN ci).2.1 k).2.2.1 = some (pm_clY ci k) := by
  match ci, h with
  | 0, _ => exact pm_ty0
  | 1, _ => exact pm_ty1
  | 2, _ => exact pm_ty2
  | 3, _ => exact pm_ty3
  | 4, _ => exact pm_ty4
  | 5, _ => exact pm_ty5
  | 6, _ => exact pm_ty6
set_option maxRecDepth 100000 in
theorem pm_ft_ok : ∀ ci, ci < 7 → pm_ft ci = (List.range (pm_clN ci).2.2).map (pm_clY ci) := by decide +kernel
theorem pm_ft_at {ci k : Nat} (h : ci < 7) {ty : FieldType} (hk : (pm_ft ci)[k]? = some ty) : k < (pm_clN ci).2.2 ∧ pm_clY ci k = ty := by
  rw [pm_ft_ok ci h, List.getElem?_map] at hk
  obtain ⟨j, h1, h2⟩ := Option.map_eq_some_iff.mp hk
  obtain ⟨h3, h4⟩ := List.getElem?_eq_some_iff.mp h1
  rw [List.length_range] at h3
  rw [List.getElem_range] at h4
  subst h4
  exact ⟨h3, h2⟩
