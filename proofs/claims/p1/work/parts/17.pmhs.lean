/-! Heap steps of the pure machine, and that they are the machine's -/
def pm_inb (j : Int32) (n : Nat) : Bool := !decide (j < 0) && Nat.blt j.toNatClampNeg n
theorem pm_inb_vp {j : Int32} {n : Nat} (h : pm_inb j n = true) : vp_in j n := by
  obtain ⟨h1, h2⟩ := Bool.and_eq_true_iff.mp h
  have h3 : ¬ j < 0 := by
    intro z
    rw [decide_eq_true z] at h1
    cases h1
  exact fun z => z.elim h3 (fun z => Nat.lt_irrefl _ (Nat.lt_of_lt_of_le (pm_blt h2) z))
def pm_get (h : pm_H) (a k : Nat) (ty : FieldType) : Option Value := match pm_cat ty with
  | 0 => some (.int (h.1 a k))
  | 1 => some (.long (h.2.1 a k))
  | _ => (h.2.2 a k).map Value.ref
def pm_kv : List (Nat × Nat × Value) → Nat → Nat → Option Value
  | [], _, _ => none
  | q :: l, a, j => bif Nat.beq q.1 a && Nat.beq q.2.1 j then some q.2.2 else pm_kv l a j
theorem pm_kv_mem : ∀ {l : List (Nat × Nat × Value)} {a j : Nat} {v : Value}, pm_kv l a j = some v → (a, j, v) ∈ l := by
  intro l
  induction l with
  | nil => intro a j v h; cases h
  | cons q l ih =>
    intro a j v h
    unfold pm_kv at h
    cases hb : (Nat.beq q.1 a && Nat.beq q.2.1 j) with
    | true =>
      rw [hb] at h
      obtain ⟨h1, h2⟩ := Bool.and_eq_true_iff.mp hb
      have h1 := Nat.eq_of_beq_eq_true h1
      have h2 := Nat.eq_of_beq_eq_true h2
      have h3 : q.2.2 = v := Option.some.inj h
      subst h1; subst h2; subst h3
      exact List.mem_cons_self
    | false =>
      rw [hb] at h
      exact List.mem_cons_of_mem _ (ih h)
def pm_put (h : pm_H) (a k : Nat) (ty : FieldType) (v : Value) : Option pm_H := match ty with
  | .int => match v with
    | .int x => some (pm_setI h a k x)
    | _ => none
  | .boolean => match v with
    | .int x => if x = 0 ∨ x = 1 then some (pm_setI h a k x) else none
    | _ => none
  | .long => match v with
    | .long x => some (pm_setL h a k x)
    | _ => none
  | .object _ => match v with
    | .ref r => some (pm_setR h a k (some r))
    | _ => none
  | _ => none
/-- an object of class ci stands at a -/
def pm_isO (sw : List (Nat × Nat)) (a ci : Nat) : Bool := Nat.blt a sw.length && Nat.beq (pm_sh sw a).1 (10 + ci)
def pm_isA (sw : List (Nat × Nat)) (a kd : Nat) : Bool := Nat.blt a sw.length && Nat.beq (pm_sh sw a).1 kd
def pm_read (i : Instr) (sw : List (Nat × Nat)) (ow : Nat) (h : pm_H) (S : List Value) : Option (List Value) := match i with
  | .getfield idx => match S with
    | .ref a :: S' => bif Nat.blt a 1000 then
        (match pm_gf ow idx with
          | some (ci, k) => bif pm_isO sw a ci then
              (match (pm_ft ci)[k]? with
                | some ty => (pm_get h a k ty).map (fun v => v :: S')
                | none => none)
              else none
          | none => none)
        else
        (match pm_kf ow idx with
          | some j => (pm_kv pm_kof a j).map (fun v => v :: S')
          | none => none)
    | _ => none
  | .getstatic idx => (pm_gs ow idx).map (fun j => Value.ref (pm_kst.getD j ("", "", "", 0)).2.2.2 :: S)
  | .ldc2_w idx => (pm_kl ow idx).map (fun v => Value.long v :: S)
  | .arraylength => match S with
    | .ref a :: S' => bif Nat.blt a sw.length && Nat.blt (pm_sh sw a).1 6 then some (.int (Int32.ofNat (pm_sh sw a).2) :: S') else none
    | _ => none
  | .iaload => match S with
    | .int j :: .ref a :: S' => bif pm_isA sw a 1 && pm_inb j (pm_sh sw a).2 then some (.int (h.1 a j.toNatClampNeg) :: S') else none
    | _ => none
  | .caload => match S with
    | .int j :: .ref a :: S' => bif pm_isA sw a 2 && pm_inb j (pm_sh sw a).2 then some (.int (h.1 a j.toNatClampNeg) :: S') else none
    | _ => none
  | .baload => match S with
    | .int j :: .ref a :: S' => bif pm_isA sw a 3 && pm_inb j (pm_sh sw a).2 then some (.int (h.1 a j.toNatClampNeg) :: S') else none
    | _ => none
  | .laload => match S with
    | .int j :: .ref a :: S' => bif pm_isA sw a 4 && pm_inb j (pm_sh sw a).2 then some (.long (h.2.1 a j.toNatClampNeg) :: S') else none
    | _ => none
  | .aaload => match S with
    | .int j :: .ref a :: S' => bif pm_isA sw a 5 && pm_inb j (pm_sh sw a).2 then (h.2.2 a j.toNatClampNeg).map (fun r => Value.ref r :: S') else none
    | _ => none
  | _ => none
def pm_write (i : Instr) (sw : List (Nat × Nat)) (ow : Nat) (h : pm_H) (S : List Value) : Option (pm_H × List Value) := match i with
  | .putfield idx => match S with
    | v :: .ref a :: S' => match pm_gf ow idx with
        | some (ci, k) => bif pm_isO sw a ci && !((pm_clN ci).2.1 k).2.2.2 then
            (match (pm_ft ci)[k]? with
              | some ty => (pm_put h a k ty v).map (fun h' => (h', S'))
              | none => none)
            else none
        | none => none
    | _ => none
  | .iastore => match S with
    | .int x :: .int j :: .ref a :: S' => bif pm_isA sw a 1 && pm_inb j (pm_sh sw a).2 then some (pm_setI h a j.toNatClampNeg x, S') else none
    | _ => none
  | .castore => match S with
    | .int x :: .int j :: .ref a :: S' => bif pm_isA sw a 2 && pm_inb j (pm_sh sw a).2 then some (pm_setI h a j.toNatClampNeg (vp_nar .char x), S') else none
    | _ => none
  | .bastore => match S with
    | .int x :: .int j :: .ref a :: S' => bif pm_isA sw a 3 && pm_inb j (pm_sh sw a).2 then some (pm_setI h a j.toNatClampNeg (vp_nar .boolean x), S') else none
    | _ => none
  | .lastore => match S with
    | .long x :: .int j :: .ref a :: S' => bif pm_isA sw a 4 && pm_inb j (pm_sh sw a).2 then some (pm_setL h a j.toNatClampNeg x, S') else none
    | _ => none
  | .aastore => match S with
    | .ref x :: .int j :: .ref a :: S' => bif (pm_isA sw a 5 && pm_inb j (pm_sh sw a).2) && (Nat.ble 1000 x && Nat.blt x 1039) then some (pm_setR h a j.toNatClampNeg (some x), S') else none
    | _ => none
  | _ => none
/-- the constants: statics, objects, fields; those that are compared differ -/
def pm_KS (rho : Nat → Nat) (A : Nat → Prop) (U : State) (H : Heap) : Prop :=
  (∀ q ∈ pm_kst, va_Z q.1 q.2.1 q.2.2.1 (.ref (rho q.2.2.2)) A U H) ∧ (∀ q ∈ pm_kob, va_O q.2 (rho q.1) A U H) ∧
  (∀ q ∈ pm_kof, va_OF (pm_kfn.getD q.2.1 ("", "", "")).1 (pm_kfn.getD q.2.1 ("", "", "")).2.1 (pm_kfn.getD q.2.1 ("", "", "")).2.2 (pm_cv rho q.2.2) (rho q.1) A U H)
theorem pm_KS.moved {rho : Nat → Nat} {A : Nat → Prop} {u U : State} {H : Heap} (hvm : u.vm.Alike U.vm) (h : pm_KS rho A u H) : pm_KS rho A U H :=
  ⟨fun q hq => va_Z.moved hvm (h.1 q hq), fun q hq => va_O.moved hvm (h.2.1 q hq), fun q hq => va_OF.moved hvm (h.2.2 q hq)⟩
theorem pm_KS.kept {rho : Nat → Nat} {A : Nat → Prop} {U : State} {H H1 : Heap} (h : pm_KS rho A U H) (hq : ∀ a : Nat, a < H.size → ¬ A a → H1[a]? = H[a]?) : pm_KS rho A U H1 :=
  ⟨fun q h1 => (h.1 q h1).kept hq, fun q h1 => (h.2.1 q h1).kept hq, fun q h1 => (h.2.2 q h1).kept hq⟩
theorem pm_KS.narrow {rho : Nat → Nat} {A B : Nat → Prop} {U : State} {H : Heap} (h : pm_KS rho A U H) (hAB : ∀ q, B q → A q) : pm_KS rho B U H :=
  ⟨fun q h1 => (h.1 q h1).narrow hAB, fun q h1 => (h.2.1 q h1).narrow hAB, fun q h1 => (h.2.2 q h1).narrow hAB⟩
theorem pm_isO_t {sw : List (Nat × Nat)} {a ci : Nat} (h : pm_isO sw a ci = true) : a < sw.length ∧ (pm_sh sw a).1 = 10 + ci := by
  obtain ⟨h1, h2⟩ := Bool.and_eq_true_iff.mp h
  exact ⟨pm_blt h1, Nat.eq_of_beq_eq_true h2⟩
theorem pm_E_O {cy : Nat → ClassId} {rho : Nat → Nat} {h : pm_H} {sh : Nat × Nat} {i ci : Nat} (hs : sh.1 = 10 + ci) : pm_E cy rho h sh i = .inr (ci, pm_fs rho h i ci) := by
  obtain ⟨a, b⟩ := sh
  have : a = (ci + 4) + 6 := by
    have : a = 10 + ci := hs
    omega
  subst this
  show (Sum.inr ((ci + 4) - 4, pm_fs rho h i ((ci + 4) - 4)) : va_E) = _
  rw [Nat.add_sub_cancel]
theorem pm_get_cv {rho : Nat → Nat} {h : pm_H} {a k : Nat} {ty : FieldType} {v : Value} (hv : pm_get h a k ty = some v) : pm_fv rho h a k ty = pm_cv rho v := by
  unfold pm_get at hv
  unfold pm_fv
  generalize pm_cat ty = n at hv ⊢
  match n, hv with
  | 0, hv => cases hv; rfl
  | 1, hv => cases hv; rfl
  | n + 2, hv =>
    obtain ⟨r, hr, rfl⟩ := Option.map_eq_some_iff.mp hv
    show va_rf ((h.2.2 a k).map rho) = _
    rw [hr]
    rfl
