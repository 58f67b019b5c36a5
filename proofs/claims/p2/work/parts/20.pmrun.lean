/-! The run of the pure machine: steps, calls, answers -/
def pm_ret (i : Instr) (rt : Option FieldType) (S : List Value) : Option (Option Value) := match i with
  | .ireturn => match S with
    | [.int x] => (match rt with
      | some .int => some (some (.int x))
      | some .boolean => if x = 0 ∨ x = 1 then some (some (.int x)) else none
      | some .char => if vp_nar .char x = x then some (some (.int x)) else none
      | some .byte => if vp_nar .byte x = x then some (some (.int x)) else none
      | _ => none)
    | _ => none
  | .return_ => match S with
    | [] => (match rt with
      | none => some none
      | _ => none)
    | _ => none
  | .areturn => match S with
    | [.ref a] => (match rt with
      | some (.object _) => some (some (.ref a))
      | some (.array _) => some (some (.ref a))
      | _ => none)
    | _ => none
  | _ => none
/-- the receiver is an object of the method's class -/
def pm_rcv (sw : List (Nat × Nat)) (a o : Nat) : Bool := bif Nat.blt a 1000 then Nat.blt o 7 && pm_isO sw a o else (bif Nat.beq o 7 then Nat.blt a 1039 else (bif Nat.beq o 8 then Nat.ble 3000 a && Nat.blt a 3039 else false))
def pm_cats (S : List Value) : Nat := (S.map fun v => v.category).sum
/-- a call: the method, its arguments, the stack behind it -/
def pm_call (i : Instr) (sw : List (Nat × Nat)) (ow : Nat) (S : List Value) : Option (Nat × List Value × List Value) := match i with
  | .invokevirtual idx => match pm_iv ow idx with
    | some mj => (match S.drop (pm_np mj) with
      | .ref a :: S' => bif !pm_sc mj && (Nat.beq (S.take (pm_np mj)).length (pm_np mj) && (pm_rcv sw a (pm_ow mj) && (Nat.ble (pm_cats S') 8 && Nat.ble (lg_sl (.ref a :: (S.take (pm_np mj)).reverse)).length (pm_mx mj)))) then some (mj, .ref a :: (S.take (pm_np mj)).reverse, S') else none
      | _ => none)
    | none => none
  | .invokestatic idx => match pm_iv ow idx with
    | some mj => bif pm_sc mj && (Nat.beq (S.take (pm_np mj)).length (pm_np mj) && (Nat.ble (pm_cats (S.drop (pm_np mj))) 8 && Nat.ble (lg_sl (S.take (pm_np mj)).reverse).length (pm_mx mj))) then some (mj, (S.take (pm_np mj)).reverse, S.drop (pm_np mj)) else none
    | none => none
  | _ => none
abbrev pm_R : Type := (Nat × pm_L × List Value × pm_H) ⊕ (Option Value ⊕ (Nat × List Value × List Value))
def pm_step (sw : List (Nat × Nat)) (mi pc : Nat) (L : pm_L) (S : List Value) (h : pm_H) : Option pm_R := match pm_fd (pm_code mi) pc with
  | none => none
  | some i => match pm_push i L with
    | some v => some (.inl (pc + pm_ln i, L, v :: S, h))
    | none => match pm_ari i S with
      | some S' => some (.inl (pc + pm_ln i, L, S', h))
      | none => match pm_br i pc S with
        | some (pc', S') => some (.inl (pc', L, S', h))
        | none => match pm_sto i (pm_mx mi) L S with
          | some (L', S') => some (.inl (pc + pm_ln i, L', S', h))
          | none => match pm_read i sw (pm_ow mi) h S with
            | some S' => some (.inl (pc + pm_ln i, L, S', h))
            | none => match pm_write i sw (pm_ow mi) h S with
              | some (h', S') => some (.inl (pc + pm_ln i, L, S', h'))
              | none => match pm_ret i (pm_rt mi) S with
                | some v => some (.inr (.inl v))
                | none => match pm_call i sw (pm_ow mi) S with
                  | some q => some (.inr (.inr q))
                  | none => none
/-- System.arraycopy between two arrays of ints or of chars -/
def pm_isac (ow idx : Nat) : Bool := pm_acl.any (fun q => Nat.beq q.1 ow && Nat.beq q.2.1 idx)
def pm_cpfit (kd : Nat) (f : Nat → Int32) (sp n : Nat) : Bool := Nat.beq kd 1 || (Nat.beq kd 2 && (List.range n).all (fun i => fits .char (.int (f (sp + i)))))
def pm_cpy (i : Instr) (sw : List (Nat × Nat)) (ow : Nat) (h : pm_H) (S : List Value) : Option (pm_H × List Value) := match i with
  | .invokestatic idx => match S with
    | .int n :: .int dp :: .ref b :: .int sp :: .ref a :: S' => bif (pm_isac ow idx && (Nat.blt a sw.length && (Nat.blt b sw.length && Nat.beq (pm_sh sw a).1 (pm_sh sw b).1))) && ((!decide (sp < 0) && (!decide (dp < 0) && !decide (n < 0))) && ((Nat.ble (sp.toNatClampNeg + n.toNatClampNeg) (pm_sh sw a).2 && Nat.ble (dp.toNatClampNeg + n.toNatClampNeg) (pm_sh sw b).2) && (pm_cpfit (pm_sh sw a).1 (h.1 a) sp.toNatClampNeg n.toNatClampNeg && Nat.ble (pm_cats S') 8)))
        then some ((va_up h.1 b (va_cpy (h.1 a) (h.1 b) sp.toNatClampNeg dp.toNatClampNeg n.toNatClampNeg), h.2.1, h.2.2), S') else none
    | _ => none
  | _ => none
/-- calls that are answered by a contract of their own: StringLatin1.charAt on a spelling's bytes -/
def pm_prim (mj : Nat) (as : List Value) : Option Value := bif Nat.beq mj 167 then (match as with
  | [.ref a, .int j] => match pm_kb a with
    | some l => bif pm_inb j l.length then some (.int (l.getD j.toNatClampNeg 0)) else none
    | none => none
  | _ => none) else none
/-- n steps at most, d calls deep at most -/
def pm_run (sw : List (Nat × Nat)) : Nat → Nat → Nat → Nat → pm_L → List Value → pm_H → Option (Option Value × pm_H)
  | 0, _, _, _, _, _, _ => none
  | n + 1, d, mi, pc, L, S, h => match pm_step sw mi pc L S h with
    | none => match pm_fd (pm_code mi) pc with
      | none => none
      | some i => match pm_cpy i sw (pm_ow mi) h S with
        | none => none
        | some (h', S') => bif Nat.blt 0 d then pm_run sw n d mi (pc + 3) L S' h' else none
    | some (.inl (pc', L', S', h')) => pm_run sw n d mi pc' L' S' h'
    | some (.inr (.inl v)) => some (v, h)
    | some (.inr (.inr (mj, as, S'))) => match d with
      | 0 => none
      | d' + 1 => match pm_prim mj as with
        | some v => bif Nat.ble 4 d' then pm_run sw n (d' + 1) mi (pc + 3) L (v :: S') h else none
        | none => match pm_run sw n d' mj 0 (lv_args 0 as) [] h with
          | none => none
          | some (v, h') => pm_run sw n (d' + 1) mi (pc + 3) L (v.toList ++ S') h'
set_option maxRecDepth 100000 in
theorem pm_ac_all : pm_acl.all (fun q => pm_inG q.2.2 (Cond.methodLink (pm_on q.1) q.2.1 arraycopyName)) = true := by decide +kernel
set_option maxRecDepth 100000 in
theorem pm_ac_w : (pm_inG pm_acp.1 (Cond.native arraycopyName) && (pm_inG pm_acp.2.1 (Cond.static arraycopyName) && pm_inG pm_acp.2.2 (Cond.initialized "java/lang/System"))) = true := by decide +kernel
def pm_rm (d : Nat) : Room := { frames := d, cells := 0, slots := 0, locals := d * 40 }
set_option maxRecDepth 100000 in
theorem pm_iv_all : (List.range 13).all (fun o => (pm_ivl.getD o []).all (fun e => Nat.blt e.2.1 173 && pm_inG e.2.2 (Cond.methodLink (pm_on o) e.1 (pm_nm e.2.1)))) = true := by decide +kernel
/-- the words on a method, by their places -/
def pm_mA (mj : Nat) : Bool := bif pm_sc mj then pm_inG (pm_mp.getD mj (0, 0, 0, 0)).2.1 (Cond.static (pm_nm mj)) else (pm_inG (pm_mp.getD mj (0, 0, 0, 0)).2.1 (Cond.instanceMethod (pm_nm mj)) && pm_inG (pm_mp.getD mj (0, 0, 0, 0)).2.2.1 (Cond.selects (pm_on (pm_ow mj)) (pm_nm mj) (pm_nm mj)))
set_option maxRecDepth 100000 in
theorem pm_mA_1 : (List.range 64).all pm_mA = true := by decide +kernel
set_option maxRecDepth 100000 in
theorem pm_mA_2 : (List.range 109).all (fun k => pm_mA (64 + k)) = true := by decide +kernel
set_option maxRecDepth 100000 in
theorem pm_mB : (List.range 173).all (fun mj => pm_inG (pm_mp.getD mj (0, 0, 0, 0)).2.2.2 (Cond.initialized (pm_on (pm_ow mj)))) = true := by decide +kernel
set_option maxRecDepth 100000 in
theorem pm_mC : (List.range 173).all (fun mj => decide ((pm_nm mj).cls = pm_on (pm_ow mj))) = true := by decide +kernel
set_option maxRecDepth 100000 in
theorem pm_mD : (List.range 173).all (fun mj => decide ((parseMethodDescriptor (pm_nm mj).desc).map (fun d => d.parameters.length) = some (pm_np mj))) = true := by decide +kernel
set_option maxRecDepth 100000 in
theorem pm_mE : (List.range 173).all (fun mj => plainFor (pm_nm mj)) = true := by decide +kernel
set_option maxRecDepth 100000 in
theorem pm_mF : (List.range 173).all (fun mj => Nat.ble (pm_mx mj) 20) = true := by decide +kernel
set_option maxRecDepth 100000 in
theorem pm_mG : (List.range 173).all (fun mj => decide ((pm_nm mj).cls ≠ "java/lang/invoke/MethodHandle") && decide ((pm_nm mj).cls ≠ "java/lang/invoke/VarHandle")) = true := by decide +kernel
set_option maxRecDepth 100000 in
theorem pm_mH : (List.range 173).map (fun mj => lw_tbl[(pm_mp.getD mj (0, 0, 0, 0)).1]?) = (List.range 173).map (fun mj => some (Cond.code (pm_nm mj) (pm_by mj) (pm_mx mj) (pm_rt mj))) := by rfl
