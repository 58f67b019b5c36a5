/-! Branches -/
def pm_jmp (pc : Nat) (off : Int) : Option Nat := match (pc : Int) + off with
  | .ofNat t => some t
  | .negSucc _ => none
theorem pm_jmp_eq {pc t : Nat} {off : Int} (h : pm_jmp pc off = some t) : (pc : Int) + off = (t : Int) := by
  unfold pm_jmp at h
  split at h
  · rename_i t0 e0
    cases h
    exact e0
  · cases h
/-- a condition that the walk asks: where it goes -/
def pm_if (b : Bool) (pc : Nat) (off : Int) (S : List Value) : Option (Nat × List Value) := match pm_jmp pc off with
  | some t => some (bif b then t else pc + 3, S)
  | none => none
def pm_c0 (c : ClassFile.Cond) (x : Int32) : Bool := match c with
  | .eq => decide (x = 0)
  | .ne => !decide (x = 0)
  | .lt => decide (x < 0)
  | .ge => decide (0 ≤ x)
  | .gt => decide (0 < x)
  | .le => decide (x ≤ 0)
def pm_c2 (c : ClassFile.Cond) (x y : Int32) : Bool := match c with
  | .eq => decide (x = y)
  | .ne => !decide (x = y)
  | .lt => decide (x < y)
  | .ge => decide (y ≤ x)
  | .gt => decide (y < x)
  | .le => decide (x ≤ y)
/-- the constants that may be compared: numbers 1000 .. 1000 + 63 -/
def pm_kc (a : Nat) : Bool := Nat.ble 1000 a && Nat.blt a 1064
def pm_br (i : Instr) (pc : Nat) (S : List Value) : Option (Nat × List Value) := match i with
  | .goto off => (pm_jmp pc off).map (fun t => (t, S))
  | .ifCond c off => match S with
    | .int x :: S' => pm_if (pm_c0 c x) pc off S'
    | _ => none
  | .if_icmp c off => match S with
    | .int y :: .int x :: S' => pm_if (pm_c2 c x y) pc off S'
    | _ => none
  | .if_acmp c off => match S with
    | .ref y :: .ref x :: S' => bif pm_kc x && pm_kc y then
        (match c with
          | .eq => pm_if (Nat.beq x y) pc off S'
          | .ne => pm_if (!Nat.beq x y) pc off S')
        else none
    | _ => none
  | .tableswitch d lo hi offs => match S with
    | .int x :: S' => if x.toInt < lo ∨ hi < x.toInt then (pm_jmp pc d).map (fun t => (t, S')) else
        (match offs[(x.toInt - lo).toNat]? with
          | some off => (pm_jmp pc off).map (fun t => (t, S'))
          | none => none)
    | _ => none
  | .lookupswitch d ps => match S with
    | .int x :: S' => bif (ps.toList.zip (ps.toList.drop 1)).all (fun (a, next) => a.1 < next.1) then (pm_jmp pc (Op.lookupswitch.offset ps.toList d x.toInt)).map (fun t => (t, S')) else none
    | _ => none
  | _ => none
section PM2
variable {p : Program} {l : Launch} {e : Env} {R : Room} {s : State} {m : MethodId} {args : Array Value} {below : List Frame} {meth : Method} {c : Code} {H : Heap} {locs : List Loc} {cells slots : Nat} {Q : State → Prop} {cc : ByteArray} {pc : Nat} {ls : Array Slot} {rho : Nat → Nat} {S : List Value}
theorem pm_if_t {b : Bool} {pc pc' : Nat} {off : Int} {S S' : List Value} (h : pm_if b pc off S = some (pc', S')) : S' = S ∧ ∃ t : Nat, (pc : Int) + off = (t : Int) ∧ (bif b then t else pc + 3) = pc' := by
  unfold pm_if at h
  split at h
  · rename_i t e
    cases h
    exact ⟨rfl, t, pm_jmp_eq e, rfl⟩
  · cases h
theorem pm_dT {P : Prop} {i : Decidable P} {A : Nat → Prop} {t u : Nat} (h : A (bif decide P then t else u)) : (P → A t) ∧ (¬ P → A u) := by
  refine ⟨fun z => ?_, fun z => ?_⟩
  · rw [decide_eq_true z] at h; exact h
  · rw [decide_eq_false z] at h; exact h
theorem pm_dN {P : Prop} {i : Decidable P} {A : Nat → Prop} {t u : Nat} (h : A (bif !decide P then t else u)) : (¬ P → A t) ∧ (P → A u) := by
  refine ⟨fun z => ?_, fun z => ?_⟩
  · rw [decide_eq_false z] at h; exact h
  · rw [decide_eq_true z] at h; exact h
theorem pm_br_snd (hx : p.tables.exec = Jvm.exec) (hb : c.code = cc) {i : Instr} {len pc' : Nat} {S' : List Value} (hdg : decode cc pc = .ok (i, len)) (hlen : pm_ln i = 0 ∨ len = pm_ln i) (hinj : ∀ a b, pm_kc a = true → pm_kc b = true → rho a = rho b → a = b) (h : pm_br i pc S = some (pc', S'))
    (k : W p l e R s m args below meth c H locs cells slots Q (F0 m pc' ls (pm_cS rho S'))) : W p l e R s m args below meth c H locs cells slots Q (F0 m pc ls (pm_cS rho S)) := by
  unfold pm_br at h
  split at h
  · have hlen := hlen.resolve_left (fun z => by cases z)
    subst hlen
    obtain ⟨t, h1, h2⟩ := Option.map_eq_some_iff.mp h
    cases h2
    exact lv_goto hx hb hdg (pm_jmp_eq h1) k
  · have hlen := hlen.resolve_left (fun z => by cases z)
    subst hlen
    split at h
    · rename_i cd off _ x S1
      obtain ⟨rfl, t, h4, h5⟩ := pm_if_t h
      subst h5
      cases cd with
      | eq =>
        obtain ⟨k1, k2⟩ := pm_dT (A := fun z => W p l e R s m args below meth c H locs cells slots Q (F0 m z ls (pm_cS rho S'))) k
        exact lv_if_eq hx hb hdg h4 k1 k2
      | ne =>
        obtain ⟨k1, k2⟩ := pm_dN (A := fun z => W p l e R s m args below meth c H locs cells slots Q (F0 m z ls (pm_cS rho S'))) k
        exact lv_if_ne hx hb hdg h4 k1 k2
      | lt =>
        obtain ⟨k1, k2⟩ := pm_dT (A := fun z => W p l e R s m args below meth c H locs cells slots Q (F0 m z ls (pm_cS rho S'))) k
        exact lv_if_lt hx hb hdg h4 k1 k2
      | ge =>
        obtain ⟨k1, k2⟩ := pm_dT (A := fun z => W p l e R s m args below meth c H locs cells slots Q (F0 m z ls (pm_cS rho S'))) k
        exact lv_if_ge hx hb hdg h4 k1 k2
      | gt =>
        obtain ⟨k1, k2⟩ := pm_dT (A := fun z => W p l e R s m args below meth c H locs cells slots Q (F0 m z ls (pm_cS rho S'))) k
        exact lv_if_gt hx hb hdg h4 k1 k2
      | le =>
        obtain ⟨k1, k2⟩ := pm_dT (A := fun z => W p l e R s m args below meth c H locs cells slots Q (F0 m z ls (pm_cS rho S'))) k
        exact lv_if_le hx hb hdg h4 k1 k2
    · cases h
  · have hlen := hlen.resolve_left (fun z => by cases z)
    subst hlen
    split at h
    · rename_i cd off _ y x S1
      obtain ⟨rfl, t, h4, h5⟩ := pm_if_t h
      subst h5
      cases cd with
      | eq =>
        obtain ⟨k1, k2⟩ := pm_dT (A := fun z => W p l e R s m args below meth c H locs cells slots Q (F0 m z ls (pm_cS rho S'))) k
        exact lv_icmp_eq hx hb hdg h4 k1 k2
      | ne =>
        obtain ⟨k1, k2⟩ := pm_dN (A := fun z => W p l e R s m args below meth c H locs cells slots Q (F0 m z ls (pm_cS rho S'))) k
        exact lv_icmp_ne hx hb hdg h4 k1 k2
      | lt =>
        obtain ⟨k1, k2⟩ := pm_dT (A := fun z => W p l e R s m args below meth c H locs cells slots Q (F0 m z ls (pm_cS rho S'))) k
        exact lv_icmp_lt hx hb hdg h4 k1 k2
      | ge =>
        obtain ⟨k1, k2⟩ := pm_dT (A := fun z => W p l e R s m args below meth c H locs cells slots Q (F0 m z ls (pm_cS rho S'))) k
        exact lv_icmp_ge hx hb hdg h4 k1 k2
      | gt =>
        obtain ⟨k1, k2⟩ := pm_dT (A := fun z => W p l e R s m args below meth c H locs cells slots Q (F0 m z ls (pm_cS rho S'))) k
        exact lv_icmp_gt hx hb hdg h4 k1 k2
      | le =>
        obtain ⟨k1, k2⟩ := pm_dT (A := fun z => W p l e R s m args below meth c H locs cells slots Q (F0 m z ls (pm_cS rho S'))) k
        exact lv_icmp_le hx hb hdg h4 k1 k2
    · cases h
  · have hlen := hlen.resolve_left (fun z => by cases z)
    subst hlen
    split at h
    · rename_i cd off _ y x S1
      cases hk : (pm_kc x && pm_kc y) with
      | false => rw [hk] at h; cases h
      | true =>
        rw [hk] at h
        obtain ⟨hkx, hky⟩ := Bool.and_eq_true_iff.mp hk
        have hiff : (some (rho x) = some (rho y)) ↔ x = y := ⟨fun z => hinj x y hkx hky (Option.some.inj z), fun z => by rw [z]⟩
        cases cd with
        | eq =>
          obtain ⟨rfl, t, h4, h5⟩ := pm_if_t h
          subst h5
          refine lv_acmp_eq (rx := some (rho x)) (ry := some (rho y)) hx hb hdg h4 (fun z => ?_) (fun z => ?_)
          · have z2 := hiff.mp z
            rw [z2, Nat.beq_refl] at k
            exact k
          · have z2 : Nat.beq x y = false := by
              cases hq : Nat.beq x y with
              | false => rfl
              | true => exact absurd (hiff.mpr (Nat.eq_of_beq_eq_true hq)) z
            rw [z2] at k
            exact k
        | ne =>
          obtain ⟨rfl, t, h4, h5⟩ := pm_if_t h
          subst h5
          refine lv_acmp_ne (rx := some (rho x)) (ry := some (rho y)) hx hb hdg h4 (fun z => ?_) (fun z => ?_)
          · have z2 : Nat.beq x y = false := by
              cases hq : Nat.beq x y with
              | false => rfl
              | true => exact absurd (hiff.mpr (Nat.eq_of_beq_eq_true hq)) z
            rw [z2] at k
            exact k
          · have z2 := hiff.mp z
            rw [z2, Nat.beq_refl] at k
            exact k
    · cases h
  · split at h
    · split at h
      · rename_i hout
        obtain ⟨t, h1, h2⟩ := Option.map_eq_some_iff.mp h
        cases h2
        exact lv_tableOut hx hb hdg hout (pm_jmp_eq h1) k
      · rename_i hout
        split at h
        · rename_i off ho
          obtain ⟨t, h1, h2⟩ := Option.map_eq_some_iff.mp h
          cases h2
          exact lv_tableIn hx hb hdg (fun z => hout (Or.inl z)) (fun z => hout (Or.inr z)) ho (pm_jmp_eq h1) k
        · cases h
    · cases h
  · split at h
    · rename_i d ps _ x S1
      cases hq : (ps.toList.zip (ps.toList.drop 1)).all (fun (a, next) => a.1 < next.1) with
      | false => rw [hq] at h; cases h
      | true =>
        rw [hq] at h
        obtain ⟨t, h1, h2⟩ := Option.map_eq_some_iff.mp h
        cases h2
        exact lv_lookup hx hb hdg hq rfl (pm_jmp_eq h1) k
    · cases h
  · cases h
end PM2
