/-! A pure machine for the bytecode of methods that make nothing and throw nothing: its steps are functions; its heap is three functions (ints, longs, references) by the number of a cell and a place in it. Part 1: values, locals, steps without heap. -/
abbrev pm_H : Type := (Nat → Nat → Int32) × (Nat → Nat → Int64) × (Nat → Nat → Option Nat)
abbrev pm_L : Type := List (Nat × Value)
/-- a value of the pure machine names a cell by its number; rho gives the address -/
def pm_cv (rho : Nat → Nat) (v : Value) : Value := match v with
  | .ref a => .ref (rho a)
  | w => w
def pm_cL (rho : Nat → Nat) (L : pm_L) : pm_L := L.map (fun q => (q.1, pm_cv rho q.2))
def pm_cS (rho : Nat → Nat) (S : List Value) : List Value := S.map (pm_cv rho)
theorem pm_cv_cat (rho : Nat → Nat) (v : Value) : (pm_cv rho v).category = v.category := by cases v <;> rfl
/-- what a local holds -/
def pm_at : pm_L → Nat → Option Value
  | [], _ => none
  | q :: L, k => bif Nat.beq q.1 k then some q.2 else pm_at L k
def pm_atI (L : pm_L) (k : Nat) : Option Int32 := match pm_at L k with
  | some (.int x) => some x
  | _ => none
def pm_atL (L : pm_L) (k : Nat) : Option Int64 := match pm_at L k with
  | some (.long x) => some x
  | _ => none
def pm_atR (L : pm_L) (k : Nat) : Option Nat := match pm_at L k with
  | some (.ref x) => some x
  | _ => none
def pm_st1 (L : pm_L) (i : Nat) (v : Value) : pm_L := (i, v) :: L.filter (fun q => !(q.1 == i) && !(q.1 + 1 == i && q.2.category == 2))
def pm_st2 (L : pm_L) (i : Nat) (v : Value) : pm_L := (i, v) :: L.filter (fun q => !(q.1 == i) && (!(q.1 == i + 1) && !(q.1 + 1 == i && q.2.category == 2)))
theorem pm_at_mem : ∀ {L : pm_L} {k : Nat} {v : Value}, pm_at L k = some v → (k, v) ∈ L := by
  intro L
  induction L with
  | nil => intro k v h; cases h
  | cons q L ih =>
    intro k v h
    unfold pm_at at h
    cases hb : Nat.beq q.1 k with
    | true =>
      rw [hb] at h
      have h1 : q.1 = k := Nat.eq_of_beq_eq_true hb
      have h2 : q.2 = v := Option.some.inj h
      rw [← h1, ← h2]
      exact List.mem_cons_self
    | false =>
      rw [hb] at h
      exact List.mem_cons_of_mem _ (ih h)
theorem pm_lv {rho : Nat → Nat} {ls : Array Slot} {n : Nat} {L : pm_L} (hl : lv_has ls n (pm_cL rho L)) {k : Nat} {v : Value} (h : pm_at L k = some v) : ls[k]? = some (.val (pm_cv rho v)) :=
  hl.2.2 (k, pm_cv rho v) (List.mem_map.mpr ⟨(k, v), pm_at_mem h, rfl⟩)
theorem pm_lvI {rho : Nat → Nat} {ls : Array Slot} {n : Nat} {L : pm_L} (hl : lv_has ls n (pm_cL rho L)) {k : Nat} {x : Int32} (h : pm_atI L k = some x) : ls[k]? = some (.val (.int x)) := by
  unfold pm_atI at h
  split at h
  · rename_i y e
    cases h
    exact pm_lv hl e
  · cases h
theorem pm_lvL {rho : Nat → Nat} {ls : Array Slot} {n : Nat} {L : pm_L} (hl : lv_has ls n (pm_cL rho L)) {k : Nat} {x : Int64} (h : pm_atL L k = some x) : ls[k]? = some (.val (.long x)) := by
  unfold pm_atL at h
  split at h
  · rename_i y e
    cases h
    exact pm_lv hl e
  · cases h
theorem pm_lvR {rho : Nat → Nat} {ls : Array Slot} {n : Nat} {L : pm_L} (hl : lv_has ls n (pm_cL rho L)) {k : Nat} {x : Nat} (h : pm_atR L k = some x) : ls[k]? = some (.val (.ref (rho x))) := by
  unfold pm_atR at h
  split at h
  · rename_i y e
    cases h
    exact pm_lv hl e
  · cases h
theorem pm_st1_c (rho : Nat → Nat) (L : pm_L) (i : Nat) (v : Value) : (i, pm_cv rho v) :: (pm_cL rho L).filter (fun q => !(q.1 == i) && !(q.1 + 1 == i && q.2.category == 2)) = pm_cL rho (pm_st1 L i v) := by
  unfold pm_st1 pm_cL
  rw [List.map_cons, List.filter_map]
  congr 2
  apply List.filter_congr
  intro q _
  simp [pm_cv_cat]
theorem pm_st2_c (rho : Nat → Nat) (L : pm_L) (i : Nat) (v : Value) : (i, pm_cv rho v) :: (pm_cL rho L).filter (fun q => !(q.1 == i) && (!(q.1 == i + 1) && !(q.1 + 1 == i && q.2.category == 2))) = pm_cL rho (pm_st2 L i v) := by
  unfold pm_st2 pm_cL
  rw [List.map_cons, List.filter_map]
  congr 2
  apply List.filter_congr
  intro q _
  simp [pm_cv_cat]
/-- constants, loads: what is pushed -/
def pm_push (i : Instr) (L : pm_L) : Option Value := match i with
  | .iconst n => some (.int (Int32.ofInt n))
  | .bipush n => some (.int (Int8.ofInt n).toInt32)
  | .sipush n => some (.int (Int16.ofInt n).toInt32)
  | .lconst n => some (.long (Int64.ofNat (n : Nat)))
  | .iload_n k => (pm_atI L k).map Value.int
  | .iload k => (pm_atI L k).map Value.int
  | .lload_n k => (pm_atL L k).map Value.long
  | .lload k => (pm_atL L k).map Value.long
  | .aload_n k => (pm_atR L k).map Value.ref
  | .aload k => (pm_atR L k).map Value.ref
  | _ => none
/-- stores and iinc -/
def pm_sto (i : Instr) (mx : Nat) (L : pm_L) (S : List Value) : Option (pm_L × List Value) := match i with
  | .istore_n k => match S with
    | .int x :: S' => bif Nat.blt k mx then some (pm_st1 L k (.int x), S') else none
    | _ => none
  | .istore k => match S with
    | .int x :: S' => bif Nat.blt k mx then some (pm_st1 L k (.int x), S') else none
    | _ => none
  | .astore_n k => match S with
    | .ref x :: S' => bif Nat.blt k mx then some (pm_st1 L k (.ref x), S') else none
    | _ => none
  | .astore k => match S with
    | .ref x :: S' => bif Nat.blt k mx then some (pm_st1 L k (.ref x), S') else none
    | _ => none
  | .lstore_n k => match S with
    | .long x :: S' => bif Nat.blt (k + 1) mx then some (pm_st2 L k (.long x), S') else none
    | _ => none
  | .lstore k => match S with
    | .long x :: S' => bif Nat.blt (k + 1) mx then some (pm_st2 L k (.long x), S') else none
    | _ => none
  | .iinc k n => match pm_atI L k with
    | some x => bif Nat.blt k mx then some (pm_st1 L k (.int (x + Int32.ofInt n)), S) else none
    | none => none
  | _ => none
/-- arithmetic and the stack -/
def pm_ari (i : Instr) (S : List Value) : Option (List Value) := match i with
  | .iadd => match S with
    | .int y :: .int x :: S' => some (.int (x + y) :: S')
    | _ => none
  | .isub => match S with
    | .int y :: .int x :: S' => some (.int (x - y) :: S')
    | _ => none
  | .imul => match S with
    | .int y :: .int x :: S' => some (.int (x * y) :: S')
    | _ => none
  | .idiv => match S with
    | .int y :: .int x :: S' => if y = 0 then none else some (.int (x / y) :: S')
    | _ => none
  | .irem => match S with
    | .int y :: .int x :: S' => if y = 0 then none else some (.int (x - x / y * y) :: S')
    | _ => none
  | .iand => match S with
    | .int y :: .int x :: S' => some (.int (x &&& y) :: S')
    | _ => none
  | .ior => match S with
    | .int y :: .int x :: S' => some (.int (x ||| y) :: S')
    | _ => none
  | .ixor => match S with
    | .int y :: .int x :: S' => some (.int (x ^^^ y) :: S')
    | _ => none
  | .ineg => match S with
    | .int x :: S' => some (.int (-x) :: S')
    | _ => none
  | .ishl => match S with
    | .int y :: .int x :: S' => some (.int (x <<< (y &&& 31)) :: S')
    | _ => none
  | .ishr => match S with
    | .int y :: .int x :: S' => some (.int (x >>> (y &&& 31)) :: S')
    | _ => none
  | .iushr => match S with
    | .int y :: .int x :: S' => some (.int ((x.toUInt32 >>> (y.toUInt32 &&& Int32.toUInt32 31)).toInt32) :: S')
    | _ => none
  | .dup => match S with
    | .int x :: S' => some (.int x :: .int x :: S')
    | .ref x :: S' => some (.ref x :: .ref x :: S')
    | _ => none
  | .dup_x1 => match S with
    | .int x :: .ref y :: S' => some (.int x :: .ref y :: .int x :: S')
    | .int x :: .int y :: S' => some (.int x :: .int y :: .int x :: S')
    | _ => none
  | .dup2 => match S with
    | .int x :: .ref y :: S' => some (.int x :: .ref y :: .int x :: .ref y :: S')
    | _ => none
  | .pop => match S with
    | .int _ :: S' => some S'
    | .ref _ :: S' => some S'
    | _ => none
  | .i2l => match S with
    | .int x :: S' => some (.long x.toInt64 :: S')
    | _ => none
  | .l2i => match S with
    | .long x :: S' => some (.int x.toInt32 :: S')
    | _ => none
  | .i2c => match S with
    | .int x :: S' => some (.int ((x.toUInt32 % 65536).toInt32) :: S')
    | _ => none
  | .ladd => match S with
    | .long y :: .long x :: S' => some (.long (x + y) :: S')
    | _ => none
  | .lsub => match S with
    | .long y :: .long x :: S' => some (.long (x - y) :: S')
    | _ => none
  | .lmul => match S with
    | .long y :: .long x :: S' => some (.long (x * y) :: S')
    | _ => none
  | .land => match S with
    | .long y :: .long x :: S' => some (.long (x &&& y) :: S')
    | _ => none
  | .lor => match S with
    | .long y :: .long x :: S' => some (.long (x ||| y) :: S')
    | _ => none
  | .lshl => match S with
    | .int y :: .long x :: S' => some (.long (x <<< (y.toInt64 &&& 63)) :: S')
    | _ => none
  | .lshr => match S with
    | .int y :: .long x :: S' => some (.long (x >>> (y.toInt64 &&& 63)) :: S')
    | _ => none
  | .lushr => match S with
    | .int y :: .long x :: S' => some (.long ((x.toUInt64 >>> (y.toInt64.toUInt64 &&& Int64.toUInt64 63)).toInt64) :: S')
    | _ => none
  | .lcmp => match S with
    | .long y :: .long x :: S' => some (.int (lg_cmp x y) :: S')
    | _ => none
  | _ => none
