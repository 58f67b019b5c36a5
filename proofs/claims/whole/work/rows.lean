section
/-! A pure machine for the bytecode of methods that make nothing and throw nothing: its steps are functions; its heap is three functions (ints, longs, references) by the number of a cell and a place in it. Part 1: values, locals, steps without heap. -/
abbrev pm_H : Type := (Nat → Nat → Int32) × (Nat → Nat → Int64) × (Nat → Nat → Option Nat)
abbrev pm_L : Type := List (Nat × Value)
/-- a value of the pure machine names a cell by its number; rho gives the address -/
def pm_cv (rho : Nat → Nat) (v : Value) : Value := match v with
  | .ref a => .ref (rho a)
  | w => w
def pm_cL (rho : Nat → Nat) (L : pm_L) : pm_L := L.map (fun q => (q.1, pm_cv rho q.2))
def pm_cS (rho : Nat → Nat) (S : List Value) : List Value := S.map (pm_cv rho)
theorem pm_cv_cat (rho : Nat → Nat) (v : Value) : (pm_cv rho v).category = v.category := by cases v <;> rfl
/-- what a local holds -/
def pm_at : pm_L → Nat → Option Value
  | [], _ => none
  | q :: L, k => bif Nat.beq q.1 k then some q.2 else pm_at L k
def pm_atI (L : pm_L) (k : Nat) : Option Int32 := match pm_at L k with
  | some (.int x) => some x
  | _ => none
def pm_atL (L : pm_L) (k : Nat) : Option Int64 := match pm_at L k with
  | some (.long x) => some x
  | _ => none
def pm_atR (L : pm_L) (k : Nat) : Option Nat := match pm_at L k with
  | some (.ref x) => some x
  | _ => none
def pm_st1 (L : pm_L) (i : Nat) (v : Value) : pm_L := (i, v) :: L.filter (fun q => !(q.1 == i) && !(q.1 + 1 == i && q.2.category == 2))
def pm_st2 (L : pm_L) (i : Nat) (v : Value) : pm_L := (i, v) :: L.filter (fun q => !(q.1 == i) && (!(q.1 == i + 1) && !(q.1 + 1 == i && q.2.category == 2)))
theorem pm_at_mem : ∀ {L : pm_L} {k : Nat} {v : Value}, pm_at L k = some v → (k, v) ∈ L := by
  intro L
  induction L with
  | nil => intro k v h; cases h
  | cons q L ih =>
    intro k v h
    unfold pm_at at h
    cases hb : Nat.beq q.1 k with
    | true =>
      rw [hb] at h
      have h1 : q.1 = k := Nat.eq_of_beq_eq_true hb
      have h2 : q.2 = v := Option.some.inj h
      rw [← h1, ← h2]
      exact List.mem_cons_self
    | false =>
      rw [hb] at h
      exact List.mem_cons_of_mem _ (ih h)
theorem pm_lv {rho : Nat → Nat} {ls : Array Slot} {n : Nat} {L : pm_L} (hl : lv_has ls n (pm_cL rho L)) {k : Nat} {v : Value} (h : pm_at L k = some v) : ls[k]? = some (.val (pm_cv rho v)) :=
  hl.2.2 (k, pm_cv rho v) (List.mem_map.mpr ⟨(k, v), pm_at_mem h, rfl⟩)
theorem pm_lvI {rho : Nat → Nat} {ls : Array Slot} {n : Nat} {L : pm_L} (hl : lv_has ls n (pm_cL rho L)) {k : Nat} {x : Int32} (h : pm_atI L k = some x) : ls[k]? = some (.val (.int x)) := by
  unfold pm_atI at h
  split at h
  · rename_i y e
    cases h
    exact pm_lv hl e
  · cases h
theorem pm_lvL {rho : Nat → Nat} {ls : Array Slot} {n : Nat} {L : pm_L} (hl : lv_has ls n (pm_cL rho L)) {k : Nat} {x : Int64} (h : pm_atL L k = some x) : ls[k]? = some (.val (.long x)) := by
  unfold pm_atL at h
  split at h
  · rename_i y e
    cases h
    exact pm_lv hl e
  · cases h
theorem pm_lvR {rho : Nat → Nat} {ls : Array Slot} {n : Nat} {L : pm_L} (hl : lv_has ls n (pm_cL rho L)) {k : Nat} {x : Nat} (h : pm_atR L k = some x) : ls[k]? = some (.val (.ref (rho x))) := by
  unfold pm_atR at h
  split at h
  · rename_i y e
    cases h
    exact pm_lv hl e
  · cases h
theorem pm_st1_c (rho : Nat → Nat) (L : pm_L) (i : Nat) (v : Value) : (i, pm_cv rho v) :: (pm_cL rho L).filter (fun q => !(q.1 == i) && !(q.1 + 1 == i && q.2.category == 2)) = pm_cL rho (pm_st1 L i v) := by
  unfold pm_st1 pm_cL
  rw [List.map_cons, List.filter_map]
  congr 2
  apply List.filter_congr
  intro q _
  simp [pm_cv_cat]
theorem pm_st2_c (rho : Nat → Nat) (L : pm_L) (i : Nat) (v : Value) : (i, pm_cv rho v) :: (pm_cL rho L).filter (fun q => !(q.1 == i) && (!(q.1 == i + 1) && !(q.1 + 1 == i && q.2.category == 2))) = pm_cL rho (pm_st2 L i v) := by
  unfold pm_st2 pm_cL
  rw [List.map_cons, List.filter_map]
  congr 2
  apply List.filter_congr
  intro q _
  simp [pm_cv_cat]
/-- constants, loads: what is pushed -/
def pm_push (i : Instr) (L : pm_L) : Option Value := match i with
  | .iconst n => some (.int (Int32.ofInt n))
  | .bipush n => some (.int (Int8.ofInt n).toInt32)
  | .sipush n => some (.int (Int16.ofInt n).toInt32)
  | .lconst n => some (.long (Int64.ofNat (n : Nat)))
  | .iload_n k => (pm_atI L k).map Value.int
  | .iload k => (pm_atI L k).map Value.int
  | .lload_n k => (pm_atL L k).map Value.long
  | .lload k => (pm_atL L k).map Value.long
  | .aload_n k => (pm_atR L k).map Value.ref
  | .aload k => (pm_atR L k).map Value.ref
  | _ => none
/-- stores and iinc -/
def pm_sto (i : Instr) (mx : Nat) (L : pm_L) (S : List Value) : Option (pm_L × List Value) := match i with
  | .istore_n k => match S with
    | .int x :: S' => bif Nat.blt k mx then some (pm_st1 L k (.int x), S') else none
    | _ => none
  | .istore k => match S with
    | .int x :: S' => bif Nat.blt k mx then some (pm_st1 L k (.int x), S') else none
    | _ => none
  | .astore_n k => match S with
    | .ref x :: S' => bif Nat.blt k mx then some (pm_st1 L k (.ref x), S') else none
    | _ => none
  | .astore k => match S with
    | .ref x :: S' => bif Nat.blt k mx then some (pm_st1 L k (.ref x), S') else none
    | _ => none
  | .lstore_n k => match S with
    | .long x :: S' => bif Nat.blt (k + 1) mx then some (pm_st2 L k (.long x), S') else none
    | _ => none
  | .lstore k => match S with
    | .long x :: S' => bif Nat.blt (k + 1) mx then some (pm_st2 L k (.long x), S') else none
    | _ => none
  | .iinc k n => match pm_atI L k with
    | some x => bif Nat.blt k mx then some (pm_st1 L k (.int (x + Int32.ofInt n)), S) else none
    | none => none
  | _ => none
/-- arithmetic and the stack -/
def pm_ari (i : Instr) (S : List Value) : Option (List Value) := match i with
  | .iadd => match S with
    | .int y :: .int x :: S' => some (.int (x + y) :: S')
    | _ => none
  | .isub => match S with
    | .int y :: .int x :: S' => some (.int (x - y) :: S')
    | _ => none
  | .imul => match S with
    | .int y :: .int x :: S' => some (.int (x * y) :: S')
    | _ => none
  | .idiv => match S with
    | .int y :: .int x :: S' => if y = 0 then none else some (.int (x / y) :: S')
    | _ => none
  | .irem => match S with
    | .int y :: .int x :: S' => if y = 0 then none else some (.int (x - x / y * y) :: S')
    | _ => none
  | .iand => match S with
    | .int y :: .int x :: S' => some (.int (x &&& y) :: S')
    | _ => none
  | .ior => match S with
    | .int y :: .int x :: S' => some (.int (x ||| y) :: S')
    | _ => none
  | .ixor => match S with
    | .int y :: .int x :: S' => some (.int (x ^^^ y) :: S')
    | _ => none
  | .ineg => match S with
    | .int x :: S' => some (.int (-x) :: S')
    | _ => none
  | .ishl => match S with
    | .int y :: .int x :: S' => some (.int (x <<< (y &&& 31)) :: S')
    | _ => none
  | .ishr => match S with
    | .int y :: .int x :: S' => some (.int (x >>> (y &&& 31)) :: S')
    | _ => none
  | .iushr => match S with
    | .int y :: .int x :: S' => some (.int ((x.toUInt32 >>> (y.toUInt32 &&& Int32.toUInt32 31)).toInt32) :: S')
    | _ => none
  | .dup => match S with
    | .int x :: S' => some (.int x :: .int x :: S')
    | .ref x :: S' => some (.ref x :: .ref x :: S')
    | _ => none
  | .dup_x1 => match S with
    | .int x :: .ref y :: S' => some (.int x :: .ref y :: .int x :: S')
    | .int x :: .int y :: S' => some (.int x :: .int y :: .int x :: S')
    | _ => none
  | .dup2 => match S with
    | .int x :: .ref y :: S' => some (.int x :: .ref y :: .int x :: .ref y :: S')
    | _ => none
  | .pop => match S with
    | .int _ :: S' => some S'
    | .ref _ :: S' => some S'
    | _ => none
  | .i2l => match S with
    | .int x :: S' => some (.long x.toInt64 :: S')
    | _ => none
  | .l2i => match S with
    | .long x :: S' => some (.int x.toInt32 :: S')
    | _ => none
  | .i2c => match S with
    | .int x :: S' => some (.int ((x.toUInt32 % 65536).toInt32) :: S')
    | _ => none
  | .ladd => match S with
    | .long y :: .long x :: S' => some (.long (x + y) :: S')
    | _ => none
  | .lsub => match S with
    | .long y :: .long x :: S' => some (.long (x - y) :: S')
    | _ => none
  | .lmul => match S with
    | .long y :: .long x :: S' => some (.long (x * y) :: S')
    | _ => none
  | .land => match S with
    | .long y :: .long x :: S' => some (.long (x &&& y) :: S')
    | _ => none
  | .lor => match S with
    | .long y :: .long x :: S' => some (.long (x ||| y) :: S')
    | _ => none
  | .lshl => match S with
    | .int y :: .long x :: S' => some (.long (x <<< (y.toInt64 &&& 63)) :: S')
    | _ => none
  | .lshr => match S with
    | .int y :: .long x :: S' => some (.long (x >>> (y.toInt64 &&& 63)) :: S')
    | _ => none
  | .lushr => match S with
    | .int y :: .long x :: S' => some (.long ((x.toUInt64 >>> (y.toInt64.toUInt64 &&& Int64.toUInt64 63)).toInt64) :: S')
    | _ => none
  | .lcmp => match S with
    | .long y :: .long x :: S' => some (.int (lg_cmp x y) :: S')
    | _ => none
  | _ => none
end
section
/-! The pure machine's steps without heap are the machine's -/
/-- an instruction's length; 0 where it depends on its place (switches) -/
def pm_ln (i : Instr) : Nat := match i with
  | .bipush _ => 2
  | .iload _ => 2
  | .lload _ => 2
  | .aload _ => 2
  | .istore _ => 2
  | .lstore _ => 2
  | .astore _ => 2
  | .iinc _ _ => 3
  | .sipush _ => 3
  | .ldc2_w _ => 3
  | .getfield _ => 3
  | .putfield _ => 3
  | .getstatic _ => 3
  | .invokevirtual _ => 3
  | .invokestatic _ => 3
  | .invokespecial _ => 3
  | .goto _ => 3
  | .ifCond _ _ => 3
  | .if_icmp _ _ => 3
  | .if_acmp _ _ => 3
  | .tableswitch _ _ _ _ => 0
  | .lookupswitch _ _ => 0
  | _ => 1
section PM1
variable {p : Program} {l : Launch} {e : Env} {R : Room} {s : State} {m : MethodId} {args : Array Value} {below : List Frame} {meth : Method} {c : Code} {H : Heap} {locs : List Loc} {cells slots : Nat} {Q : State → Prop} {cc : ByteArray} {pc : Nat} {ls : Array Slot} {rho : Nat → Nat} {n : Nat} {L : pm_L} {S : List Value}
theorem pm_push_snd (hx : p.tables.exec = Jvm.exec) (hb : c.code = cc) {i : Instr} {v : Value} (hdg : decode cc pc = .ok (i, pm_ln i)) (hl : lv_has ls n (pm_cL rho L)) (h : pm_push i L = some v)
    (k : W p l e R s m args below meth c H locs cells slots Q (F0 m (pc + pm_ln i) ls (pm_cS rho (v :: S)))) : W p l e R s m args below meth c H locs cells slots Q (F0 m pc ls (pm_cS rho S)) := by
  unfold pm_push at h
  split at h
  · cases h; exact lv_iconst hx hb hdg rfl k
  · cases h; exact lv_bipush hx hb hdg rfl k
  · cases h; exact lv_sipush hx hb hdg rfl k
  · cases h; exact lv_lconst hx hb hdg rfl k
  · obtain ⟨x, h1, rfl⟩ := Option.map_eq_some_iff.mp h; exact lv_iload_n hx hb hdg rfl (pm_lvI hl h1) k
  · obtain ⟨x, h1, rfl⟩ := Option.map_eq_some_iff.mp h; exact lv_iload hx hb hdg (pm_lvI hl h1) k
  · obtain ⟨x, h1, rfl⟩ := Option.map_eq_some_iff.mp h; exact lv_lload_n hx hb hdg rfl (pm_lvL hl h1) k
  · obtain ⟨x, h1, rfl⟩ := Option.map_eq_some_iff.mp h; exact lv_lload hx hb hdg (pm_lvL hl h1) k
  · obtain ⟨x, h1, rfl⟩ := Option.map_eq_some_iff.mp h; exact lv_aload_n hx hb hdg rfl (pm_lvR hl h1) k
  · obtain ⟨x, h1, rfl⟩ := Option.map_eq_some_iff.mp h; exact lv_aload hx hb hdg (pm_lvR hl h1) k
  · cases h
theorem pm_bif {α : Type} {b : Bool} {x y : α} (h : (bif b then some x else none) = some y) : b = true ∧ x = y := by
  cases b with
  | true => exact ⟨rfl, Option.some.inj h⟩
  | false => cases h
theorem pm_blt {a b : Nat} (h : Nat.blt a b = true) : a < b := Nat.lt_of_succ_le (Nat.le_of_ble_eq_true h)
theorem pm_sto_snd (hx : p.tables.exec = Jvm.exec) (hb : c.code = cc) {i : Instr} {L' : pm_L} {S' : List Value} (hdg : decode cc pc = .ok (i, pm_ln i)) (hl : lv_has ls n (pm_cL rho L)) (h : pm_sto i n L S = some (L', S'))
    (k : ∀ ls' : Array Slot, lv_has ls' n (pm_cL rho L') → W p l e R s m args below meth c H locs cells slots Q (F0 m (pc + pm_ln i) ls' (pm_cS rho S'))) : W p l e R s m args below meth c H locs cells slots Q (F0 m pc ls (pm_cS rho S)) := by
  unfold pm_sto at h
  split at h
  · split at h
    · obtain ⟨h1, h2⟩ := pm_bif h; cases h2
      exact lv_istore_n hx hb hdg rfl hl (pm_blt h1) (pm_st1_c rho L _ (.int _)) k
    · cases h
  · split at h
    · obtain ⟨h1, h2⟩ := pm_bif h; cases h2
      exact lv_istore hx hb hdg hl (pm_blt h1) (pm_st1_c rho L _ (.int _)) k
    · cases h
  · split at h
    · obtain ⟨h1, h2⟩ := pm_bif h; cases h2
      exact lv_astore_n hx hb hdg rfl hl (pm_blt h1) (pm_st1_c rho L _ (.ref _)) k
    · cases h
  · split at h
    · obtain ⟨h1, h2⟩ := pm_bif h; cases h2
      exact lv_astore hx hb hdg hl (pm_blt h1) (pm_st1_c rho L _ (.ref _)) k
    · cases h
  · split at h
    · obtain ⟨h1, h2⟩ := pm_bif h; cases h2
      exact lv_lstore_n hx hb hdg rfl hl (pm_blt h1) (pm_st2_c rho L _ (.long _)) k
    · cases h
  · split at h
    · obtain ⟨h1, h2⟩ := pm_bif h; cases h2
      exact lv_lstore hx hb hdg hl (pm_blt h1) (pm_st2_c rho L _ (.long _)) k
    · cases h
  · split at h
    · rename_i k0 n0 _ x hx0
      obtain ⟨h1, h2⟩ := pm_bif h; cases h2
      have hm : (k0, pm_cv rho (.int x)) ∈ pm_cL rho L := by
        unfold pm_atI at hx0
        split at hx0
        · rename_i y ey
          cases hx0
          exact List.mem_map.mpr ⟨(k0, .int x), pm_at_mem ey, rfl⟩
        · cases hx0
      obtain ⟨j, hj⟩ := List.getElem?_of_mem hm
      exact lv_iinc (k := j) hx hb hdg hl hj rfl (pm_blt h1) (pm_st1_c rho L _ (.int _)) k
    · cases h
  · cases h
theorem pm_ari_snd (hx : p.tables.exec = Jvm.exec) (hb : c.code = cc) {i : Instr} {S' : List Value} (hdg : decode cc pc = .ok (i, pm_ln i)) (h : pm_ari i S = some S')
    (k : W p l e R s m args below meth c H locs cells slots Q (F0 m (pc + pm_ln i) ls (pm_cS rho S'))) : W p l e R s m args below meth c H locs cells slots Q (F0 m pc ls (pm_cS rho S)) := by
  unfold pm_ari at h
  split at h
  · split at h
    · cases h; exact lv_iadd hx hb hdg k
    · cases h
  · split at h
    · cases h; exact lv_isub hx hb hdg k
    · cases h
  · split at h
    · cases h; exact lv_imul hx hb hdg k
    · cases h
  · split at h
    · split at h
      · cases h
      · rename_i hne
        cases h; exact lv_idiv hx hb hdg hne k
    · cases h
  · split at h
    · split at h
      · cases h
      · rename_i hne
        cases h; exact lv_irem hx hb hdg hne k
    · cases h
  · split at h
    · cases h; exact lv_iand hx hb hdg k
    · cases h
  · split at h
    · cases h; exact lv_ior hx hb hdg k
    · cases h
  · split at h
    · cases h; exact lv_ixor hx hb hdg k
    · cases h
  · split at h
    · cases h; exact lv_ineg hx hb hdg k
    · cases h
  · split at h
    · cases h; exact lv_ishl hx hb hdg k
    · cases h
  · split at h
    · cases h; exact lv_ishr hx hb hdg k
    · cases h
  · split at h
    · cases h; exact lv_iushr hx hb hdg rfl k
    · cases h
  · split at h
    · cases h; exact lv_dup hx hb hdg rfl k
    · cases h; exact lv_dup hx hb hdg rfl k
    · cases h
  · split at h
    · cases h; exact lv_dup_x1 hx hb hdg rfl rfl k
    · cases h; exact lv_dup_x1 hx hb hdg rfl rfl k
    · cases h
  · split at h
    · cases h; exact lv_dup2_11 hx hb hdg rfl rfl k
    · cases h
  · split at h
    · cases h; exact lv_pop (va := .int _) hx hb hdg rfl k
    · cases h; exact lv_pop (va := .ref _) hx hb hdg rfl k
    · cases h
  · split at h
    · cases h; exact lv_i2l hx hb hdg rfl k
    · cases h
  · split at h
    · cases h; exact lv_l2i hx hb hdg rfl k
    · cases h
  · split at h
    · cases h; exact lv_i2c hx hb hdg rfl k
    · cases h
  · split at h
    · cases h; exact lv_ladd hx hb hdg k
    · cases h
  · split at h
    · cases h; exact lv_lsub hx hb hdg k
    · cases h
  · split at h
    · cases h; exact lv_lmul hx hb hdg k
    · cases h
  · split at h
    · cases h; exact lv_land hx hb hdg k
    · cases h
  · split at h
    · cases h; exact lv_lor hx hb hdg k
    · cases h
  · split at h
    · cases h; exact lv_lshl hx hb hdg rfl k
    · cases h
  · split at h
    · cases h; exact lv_lshr hx hb hdg rfl k
    · cases h
  · split at h
    · cases h; exact lv_lushr hx hb hdg rfl k
    · cases h
  · split at h
    · cases h; exact W.lcmp hx hb hdg k
    · cases h
  · cases h
end PM1
end
section
/-! Branches -/
def pm_jmp (pc : Nat) (off : Int) : Option Nat := match (pc : Int) + off with
  | .ofNat t => some t
  | .negSucc _ => none
theorem pm_jmp_eq {pc t : Nat} {off : Int} (h : pm_jmp pc off = some t) : (pc : Int) + off = (t : Int) := by
  unfold pm_jmp at h
  split at h
  · rename_i t0 e0
    cases h
    exact e0
  · cases h
/-- a condition that the walk asks: where it goes -/
def pm_if (b : Bool) (pc : Nat) (off : Int) (S : List Value) : Option (Nat × List Value) := match pm_jmp pc off with
  | some t => some (bif b then t else pc + 3, S)
  | none => none
def pm_c0 (c : ClassFile.Cond) (x : Int32) : Bool := match c with
  | .eq => decide (x = 0)
  | .ne => !decide (x = 0)
  | .lt => decide (x < 0)
  | .ge => decide (0 ≤ x)
  | .gt => decide (0 < x)
  | .le => decide (x ≤ 0)
def pm_c2 (c : ClassFile.Cond) (x y : Int32) : Bool := match c with
  | .eq => decide (x = y)
  | .ne => !decide (x = y)
  | .lt => decide (x < y)
  | .ge => decide (y ≤ x)
  | .gt => decide (y < x)
  | .le => decide (x ≤ y)
/-- the constants that may be compared: numbers 1000 .. 1000 + 63 -/
def pm_kc (a : Nat) : Bool := Nat.ble 1000 a && Nat.blt a 1064
def pm_br (i : Instr) (pc : Nat) (S : List Value) : Option (Nat × List Value) := match i with
  | .goto off => (pm_jmp pc off).map (fun t => (t, S))
  | .ifCond c off => match S with
    | .int x :: S' => pm_if (pm_c0 c x) pc off S'
    | _ => none
  | .if_icmp c off => match S with
    | .int y :: .int x :: S' => pm_if (pm_c2 c x y) pc off S'
    | _ => none
  | .if_acmp c off => match S with
    | .ref y :: .ref x :: S' => bif pm_kc x && pm_kc y then
        (match c with
          | .eq => pm_if (Nat.beq x y) pc off S'
          | .ne => pm_if (!Nat.beq x y) pc off S')
        else none
    | _ => none
  | .tableswitch d lo hi offs => match S with
    | .int x :: S' => if x.toInt < lo ∨ hi < x.toInt then (pm_jmp pc d).map (fun t => (t, S')) else
        (match offs[(x.toInt - lo).toNat]? with
          | some off => (pm_jmp pc off).map (fun t => (t, S'))
          | none => none)
    | _ => none
  | .lookupswitch d ps => match S with
    | .int x :: S' => bif (ps.toList.zip (ps.toList.drop 1)).all (fun (a, next) => a.1 < next.1) then (pm_jmp pc (Op.lookupswitch.offset ps.toList d x.toInt)).map (fun t => (t, S')) else none
    | _ => none
  | _ => none
section PM2
variable {p : Program} {l : Launch} {e : Env} {R : Room} {s : State} {m : MethodId} {args : Array Value} {below : List Frame} {meth : Method} {c : Code} {H : Heap} {locs : List Loc} {cells slots : Nat} {Q : State → Prop} {cc : ByteArray} {pc : Nat} {ls : Array Slot} {rho : Nat → Nat} {S : List Value}
theorem pm_if_t {b : Bool} {pc pc' : Nat} {off : Int} {S S' : List Value} (h : pm_if b pc off S = some (pc', S')) : S' = S ∧ ∃ t : Nat, (pc : Int) + off = (t : Int) ∧ (bif b then t else pc + 3) = pc' := by
  unfold pm_if at h
  split at h
  · rename_i t e
    cases h
    exact ⟨rfl, t, pm_jmp_eq e, rfl⟩
  · cases h
theorem pm_dT {P : Prop} {i : Decidable P} {A : Nat → Prop} {t u : Nat} (h : A (bif decide P then t else u)) : (P → A t) ∧ (¬ P → A u) := by
  refine ⟨fun z => ?_, fun z => ?_⟩
  · rw [decide_eq_true z] at h; exact h
  · rw [decide_eq_false z] at h; exact h
theorem pm_dN {P : Prop} {i : Decidable P} {A : Nat → Prop} {t u : Nat} (h : A (bif !decide P then t else u)) : (¬ P → A t) ∧ (P → A u) := by
  refine ⟨fun z => ?_, fun z => ?_⟩
  · rw [decide_eq_false z] at h; exact h
  · rw [decide_eq_true z] at h; exact h
theorem pm_br_snd (hx : p.tables.exec = Jvm.exec) (hb : c.code = cc) {i : Instr} {len pc' : Nat} {S' : List Value} (hdg : decode cc pc = .ok (i, len)) (hlen : pm_ln i = 0 ∨ len = pm_ln i) (hinj : ∀ a b, pm_kc a = true → pm_kc b = true → rho a = rho b → a = b) (h : pm_br i pc S = some (pc', S'))
    (k : W p l e R s m args below meth c H locs cells slots Q (F0 m pc' ls (pm_cS rho S'))) : W p l e R s m args below meth c H locs cells slots Q (F0 m pc ls (pm_cS rho S)) := by
  unfold pm_br at h
  split at h
  · have hlen := hlen.resolve_left (fun z => by cases z)
    subst hlen
    obtain ⟨t, h1, h2⟩ := Option.map_eq_some_iff.mp h
    cases h2
    exact lv_goto hx hb hdg (pm_jmp_eq h1) k
  · have hlen := hlen.resolve_left (fun z => by cases z)
    subst hlen
    split at h
    · rename_i cd off _ x S1
      obtain ⟨rfl, t, h4, h5⟩ := pm_if_t h
      subst h5
      cases cd with
      | eq =>
        obtain ⟨k1, k2⟩ := pm_dT (A := fun z => W p l e R s m args below meth c H locs cells slots Q (F0 m z ls (pm_cS rho S'))) k
        exact lv_if_eq hx hb hdg h4 k1 k2
      | ne =>
        obtain ⟨k1, k2⟩ := pm_dN (A := fun z => W p l e R s m args below meth c H locs cells slots Q (F0 m z ls (pm_cS rho S'))) k
        exact lv_if_ne hx hb hdg h4 k1 k2
      | lt =>
        obtain ⟨k1, k2⟩ := pm_dT (A := fun z => W p l e R s m args below meth c H locs cells slots Q (F0 m z ls (pm_cS rho S'))) k
        exact lv_if_lt hx hb hdg h4 k1 k2
      | ge =>
        obtain ⟨k1, k2⟩ := pm_dT (A := fun z => W p l e R s m args below meth c H locs cells slots Q (F0 m z ls (pm_cS rho S'))) k
        exact lv_if_ge hx hb hdg h4 k1 k2
      | gt =>
        obtain ⟨k1, k2⟩ := pm_dT (A := fun z => W p l e R s m args below meth c H locs cells slots Q (F0 m z ls (pm_cS rho S'))) k
        exact lv_if_gt hx hb hdg h4 k1 k2
      | le =>
        obtain ⟨k1, k2⟩ := pm_dT (A := fun z => W p l e R s m args below meth c H locs cells slots Q (F0 m z ls (pm_cS rho S'))) k
        exact lv_if_le hx hb hdg h4 k1 k2
    · cases h
  · have hlen := hlen.resolve_left (fun z => by cases z)
    subst hlen
    split at h
    · rename_i cd off _ y x S1
      obtain ⟨rfl, t, h4, h5⟩ := pm_if_t h
      subst h5
      cases cd with
      | eq =>
        obtain ⟨k1, k2⟩ := pm_dT (A := fun z => W p l e R s m args below meth c H locs cells slots Q (F0 m z ls (pm_cS rho S'))) k
        exact lv_icmp_eq hx hb hdg h4 k1 k2
      | ne =>
        obtain ⟨k1, k2⟩ := pm_dN (A := fun z => W p l e R s m args below meth c H locs cells slots Q (F0 m z ls (pm_cS rho S'))) k
        exact lv_icmp_ne hx hb hdg h4 k1 k2
      | lt =>
        obtain ⟨k1, k2⟩ := pm_dT (A := fun z => W p l e R s m args below meth c H locs cells slots Q (F0 m z ls (pm_cS rho S'))) k
        exact lv_icmp_lt hx hb hdg h4 k1 k2
      | ge =>
        obtain ⟨k1, k2⟩ := pm_dT (A := fun z => W p l e R s m args below meth c H locs cells slots Q (F0 m z ls (pm_cS rho S'))) k
        exact lv_icmp_ge hx hb hdg h4 k1 k2
      | gt =>
        obtain ⟨k1, k2⟩ := pm_dT (A := fun z => W p l e R s m args below meth c H locs cells slots Q (F0 m z ls (pm_cS rho S'))) k
        exact lv_icmp_gt hx hb hdg h4 k1 k2
      | le =>
        obtain ⟨k1, k2⟩ := pm_dT (A := fun z => W p l e R s m args below meth c H locs cells slots Q (F0 m z ls (pm_cS rho S'))) k
        exact lv_icmp_le hx hb hdg h4 k1 k2
    · cases h
  · have hlen := hlen.resolve_left (fun z => by cases z)
    subst hlen
    split at h
    · rename_i cd off _ y x S1
      cases hk : (pm_kc x && pm_kc y) with
      | false => rw [hk] at h; cases h
      | true =>
        rw [hk] at h
        obtain ⟨hkx, hky⟩ := Bool.and_eq_true_iff.mp hk
        have hiff : (some (rho x) = some (rho y)) ↔ x = y := ⟨fun z => hinj x y hkx hky (Option.some.inj z), fun z => by rw [z]⟩
        cases cd with
        | eq =>
          obtain ⟨rfl, t, h4, h5⟩ := pm_if_t h
          subst h5
          refine lv_acmp_eq (rx := some (rho x)) (ry := some (rho y)) hx hb hdg h4 (fun z => ?_) (fun z => ?_)
          · have z2 := hiff.mp z
            rw [z2, Nat.beq_refl] at k
            exact k
          · have z2 : Nat.beq x y = false := by
              cases hq : Nat.beq x y with
              | false => rfl
              | true => exact absurd (hiff.mpr (Nat.eq_of_beq_eq_true hq)) z
            rw [z2] at k
            exact k
        | ne =>
          obtain ⟨rfl, t, h4, h5⟩ := pm_if_t h
          subst h5
          refine lv_acmp_ne (rx := some (rho x)) (ry := some (rho y)) hx hb hdg h4 (fun z => ?_) (fun z => ?_)
          · have z2 : Nat.beq x y = false := by
              cases hq : Nat.beq x y with
              | false => rfl
              | true => exact absurd (hiff.mpr (Nat.eq_of_beq_eq_true hq)) z
            rw [z2] at k
            exact k
          · have z2 := hiff.mp z
            rw [z2, Nat.beq_refl] at k
            exact k
    · cases h
  · split at h
    · split at h
      · rename_i hout
        obtain ⟨t, h1, h2⟩ := Option.map_eq_some_iff.mp h
        cases h2
        exact lv_tableOut hx hb hdg hout (pm_jmp_eq h1) k
      · rename_i hout
        split at h
        · rename_i off ho
          obtain ⟨t, h1, h2⟩ := Option.map_eq_some_iff.mp h
          cases h2
          exact lv_tableIn hx hb hdg (fun z => hout (Or.inl z)) (fun z => hout (Or.inr z)) ho (pm_jmp_eq h1) k
        · cases h
    · cases h
  · split at h
    · rename_i d ps _ x S1
      cases hq : (ps.toList.zip (ps.toList.drop 1)).all (fun (a, next) => a.1 < next.1) with
      | false => rw [hq] at h; cases h
      | true =>
        rw [hq] at h
        obtain ⟨t, h1, h2⟩ := Option.map_eq_some_iff.mp h
        cases h2
        exact lv_lookup hx hb hdg hq rfl (pm_jmp_eq h1) k
    · cases h
  · cases h
end PM2
end
