/-! A calculus over the pure machine: ints and longs as whole numbers; what must hold before a piece of code is computed from the code -/
abbrev zv : Type := Int ⊕ (Int ⊕ Nat)
abbrev zF : Type := Nat → Nat → Int
abbrev zM : Type := List (Option zv)
abbrev zT : Type := Nat → Option Nat
/-- the heap: the class's ints, the model's ints, longs, the parser's kind, the tokens' kinds -/
abbrev zh : Type := zF × zF × zF × Nat × zT
def zV (v : zv) : Value := match v with
  | .inl n => .int (Int32.ofInt n)
  | .inr (.inl n) => .long (Int64.ofInt n)
  | .inr (.inr r) => .ref r
def zu (f : zF) (a k : Nat) (v : Int) : zF := fun i j => bif Nat.beq i a && Nat.beq j k then v else f i j
def zua (f : zF) (a : Nat) (g : Nat → Int) : zF := fun i j => bif Nat.beq i a then g j else f i j
def zut (T : zT) (k r : Nat) : zT := fun j => bif Nat.beq j k then some r else T j
def zrd (h : zh) (a k : Nat) : Int := bif Nat.blt a 39 then h.1 a k else h.2.1 a k
def zc (h : zh) : pm_H := (fun i j => Int32.ofInt (zrd h i j), fun i j => Int64.ofInt (h.2.2.1 i j), pg_r (some h.2.2.2.1) h.2.2.2.2)
def zwr (h : zh) (a k : Nat) (v : Int) : zh := bif Nat.blt a 39 then (zu h.1 a k v, h.2.1, h.2.2.1, h.2.2.2.1, h.2.2.2.2) else (h.1, zu h.2.1 a k v, h.2.2.1, h.2.2.2.1, h.2.2.2.2)
def zwa (h : zh) (a : Nat) (g : Nat → Int) : zh := bif Nat.blt a 39 then (zua h.1 a g, h.2.1, h.2.2.1, h.2.2.2.1, h.2.2.2.2) else (h.1, zua h.2.1 a g, h.2.2.1, h.2.2.2.1, h.2.2.2.2)
def zat : zM → Nat → Option zv
  | [], _ => none
  | x :: _, 0 => x
  | _ :: M, k + 1 => zat M k
def zset : zM → Nat → Option zv → zM
  | [], _, _ => []
  | _ :: M, 0, v => v :: M
  | x :: M, k + 1, v => x :: zset M k v
def zisl (v : Option zv) : Bool := match v with
  | some (.inr (.inl _)) => true
  | _ => false
def zkl (M : zM) (k : Nat) : zM := match k with
  | 0 => M
  | k + 1 => bif zisl (zat M k) then zset M k none else M
def zst1 (M : zM) (k : Nat) (v : zv) : zM := zset (zkl M k) k (some v)
def zst2 (M : zM) (k : Nat) (v : zv) : zM := zset (zset (zkl M k) (k + 1) none) k (some v)
def zfor : List Nat → zM → zM
  | [], M => M
  | k :: F, M => zfor F (zset M k none)
def znone : Nat → zM
  | 0 => []
  | n + 1 => none :: znone n
def zarg : Nat → List zv → zM
  | n, [] => znone n
  | n, v :: vs => some v :: (bif zisl (some v) then none :: zarg (n - 2) vs else zarg (n - 1) vs)
def zcat (v : zv) : Nat := match v with
  | .inr (.inl _) => 2
  | _ => 1
def zcats : List zv → Nat
  | [] => 0
  | v :: S => zcat v + zcats S
/-- the steps without any condition -/
def zstep (i : Instr) (mx pc : Nat) (M : zM) (S : List zv) : Option (Nat × zM × List zv) := match i with
  | .iconst n => some (pc + 1, M, .inl n :: S)
  | .bipush n => bif decide (-128 ≤ n) && decide (n < 128) then some (pc + 2, M, .inl n :: S) else none
  | .sipush n => bif decide (-32768 ≤ n) && decide (n < 32768) then some (pc + 3, M, .inl n :: S) else none
  | .lconst n => some (pc + 1, M, .inr (.inl ((n : Nat) : Int)) :: S)
  | .iload_n k => match zat M k with
    | some (.inl x) => some (pc + 1, M, .inl x :: S)
    | _ => none
  | .iload k => match zat M k with
    | some (.inl x) => some (pc + 2, M, .inl x :: S)
    | _ => none
  | .lload_n k => match zat M k with
    | some (.inr (.inl x)) => some (pc + 1, M, .inr (.inl x) :: S)
    | _ => none
  | .lload k => match zat M k with
    | some (.inr (.inl x)) => some (pc + 2, M, .inr (.inl x) :: S)
    | _ => none
  | .aload_n k => match zat M k with
    | some (.inr (.inr x)) => some (pc + 1, M, .inr (.inr x) :: S)
    | _ => none
  | .aload k => match zat M k with
    | some (.inr (.inr x)) => some (pc + 2, M, .inr (.inr x) :: S)
    | _ => none
  | .istore_n k => match S with
    | .inl x :: S' => bif Nat.blt k mx then some (pc + 1, zst1 M k (.inl x), S') else none
    | _ => none
  | .istore k => match S with
    | .inl x :: S' => bif Nat.blt k mx then some (pc + 2, zst1 M k (.inl x), S') else none
    | _ => none
  | .astore_n k => match S with
    | .inr (.inr x) :: S' => bif Nat.blt k mx then some (pc + 1, zst1 M k (.inr (.inr x)), S') else none
    | _ => none
  | .astore k => match S with
    | .inr (.inr x) :: S' => bif Nat.blt k mx then some (pc + 2, zst1 M k (.inr (.inr x)), S') else none
    | _ => none
  | .lstore_n k => match S with
    | .inr (.inl x) :: S' => bif Nat.blt (k + 1) mx then some (pc + 1, zst2 M k (.inr (.inl x)), S') else none
    | _ => none
  | .lstore k => match S with
    | .inr (.inl x) :: S' => bif Nat.blt (k + 1) mx then some (pc + 2, zst2 M k (.inr (.inl x)), S') else none
    | _ => none
  | .iinc k n => match zat M k with
    | some (.inl x) => bif Nat.blt k mx then some (pc + 3, zst1 M k (.inl (x + n)), S) else none
    | _ => none
  | .iadd => match S with
    | .inl y :: .inl x :: S' => some (pc + 1, M, .inl (x + y) :: S')
    | _ => none
  | .isub => match S with
    | .inl y :: .inl x :: S' => some (pc + 1, M, .inl (x - y) :: S')
    | _ => none
  | .imul => match S with
    | .inl y :: .inl x :: S' => some (pc + 1, M, .inl (x * y) :: S')
    | _ => none
  | .ineg => match S with
    | .inl x :: S' => some (pc + 1, M, .inl (-x) :: S')
    | _ => none
  | .ladd => match S with
    | .inr (.inl y) :: .inr (.inl x) :: S' => some (pc + 1, M, .inr (.inl (x + y)) :: S')
    | _ => none
  | .lmul => match S with
    | .inr (.inl y) :: .inr (.inl x) :: S' => some (pc + 1, M, .inr (.inl (x * y)) :: S')
    | _ => none
  | .dup => match S with
    | .inl x :: S' => some (pc + 1, M, .inl x :: .inl x :: S')
    | .inr (.inr x) :: S' => some (pc + 1, M, .inr (.inr x) :: .inr (.inr x) :: S')
    | _ => none
  | .dup_x1 => match S with
    | .inl x :: .inr (.inr y) :: S' => some (pc + 1, M, .inl x :: .inr (.inr y) :: .inl x :: S')
    | .inl x :: .inl y :: S' => some (pc + 1, M, .inl x :: .inl y :: .inl x :: S')
    | _ => none
  | .dup2 => match S with
    | .inl x :: .inr (.inr y) :: S' => some (pc + 1, M, .inl x :: .inr (.inr y) :: .inl x :: .inr (.inr y) :: S')
    | _ => none
  | .pop => match S with
    | .inl _ :: S' => some (pc + 1, M, S')
    | .inr (.inr _) :: S' => some (pc + 1, M, S')
    | _ => none
  | .goto off => (pm_jmp pc off).map (fun t => (t, M, S))
  | _ => none
def zjmp (pc : Nat) (off : Int) (f : Nat → Prop) : Prop := match pm_jmp pc off with
  | some t => f t
  | none => False
/-- any int, any long -/
def zaI (k : Int → Prop) : Prop := ∀ c : Int, -2147483648 ≤ c → c < 2147483648 → k c
def zaL (k : Int → Prop) : Prop := ∀ c : Int, -9223372036854775808 ≤ c → c < 9223372036854775808 → k c
/-- steps of which nothing is known but the answer's size -/
def zhv (i : Instr) (pc : Nat) (S : List zv) (k : Nat → List zv → Prop) : Prop := match i with
  | .iadd => match S with
    | .inl _ :: .inl _ :: S' => zaI (fun c => k (pc + 1) (.inl c :: S'))
    | _ => False
  | .isub => match S with
    | .inl _ :: .inl _ :: S' => zaI (fun c => k (pc + 1) (.inl c :: S'))
    | _ => False
  | .imul => match S with
    | .inl _ :: .inl _ :: S' => zaI (fun c => k (pc + 1) (.inl c :: S'))
    | _ => False
  | .iand => match S with
    | .inl _ :: .inl _ :: S' => zaI (fun c => k (pc + 1) (.inl c :: S'))
    | _ => False
  | .ior => match S with
    | .inl _ :: .inl _ :: S' => zaI (fun c => k (pc + 1) (.inl c :: S'))
    | _ => False
  | .ixor => match S with
    | .inl _ :: .inl _ :: S' => zaI (fun c => k (pc + 1) (.inl c :: S'))
    | _ => False
  | .ishl => match S with
    | .inl _ :: .inl _ :: S' => zaI (fun c => k (pc + 1) (.inl c :: S'))
    | _ => False
  | .iushr => match S with
    | .inl _ :: .inl _ :: S' => zaI (fun c => k (pc + 1) (.inl c :: S'))
    | _ => False
  | .ineg => match S with
    | .inl _ :: S' => zaI (fun c => k (pc + 1) (.inl c :: S'))
    | _ => False
  | .idiv => match S with
    | .inl y :: .inl _ :: S' => (-2147483648 ≤ y ∧ y < 2147483648 ∧ y ≠ 0) ∧ zaI (fun c => k (pc + 1) (.inl c :: S'))
    | _ => False
  | .irem => match S with
    | .inl y :: .inl _ :: S' => (-2147483648 ≤ y ∧ y < 2147483648 ∧ y ≠ 0) ∧ zaI (fun c => k (pc + 1) (.inl c :: S'))
    | _ => False
  | .lcmp => match S with
    | .inr (.inl _) :: .inr (.inl _) :: S' => zaI (fun c => k (pc + 1) (.inl c :: S'))
    | _ => False
  | .l2i => match S with
    | .inr (.inl _) :: S' => zaI (fun c => k (pc + 1) (.inl c :: S'))
    | _ => False
  | .ladd => match S with
    | .inr (.inl _) :: .inr (.inl _) :: S' => zaL (fun c => k (pc + 1) (.inr (.inl c) :: S'))
    | _ => False
  | .lsub => match S with
    | .inr (.inl _) :: .inr (.inl _) :: S' => zaL (fun c => k (pc + 1) (.inr (.inl c) :: S'))
    | _ => False
  | .lmul => match S with
    | .inr (.inl _) :: .inr (.inl _) :: S' => zaL (fun c => k (pc + 1) (.inr (.inl c) :: S'))
    | _ => False
  | .lor => match S with
    | .inr (.inl _) :: .inr (.inl _) :: S' => zaL (fun c => k (pc + 1) (.inr (.inl c) :: S'))
    | _ => False
  | .lshl => match S with
    | .inl _ :: .inr (.inl _) :: S' => zaL (fun c => k (pc + 1) (.inr (.inl c) :: S'))
    | _ => False
  | .ifCond _ off => match S with
    | .inl _ :: S' => zjmp pc off (fun t => k t S' ∧ k (pc + 3) S')
    | _ => False
  | .if_icmp _ off => match S with
    | .inl _ :: .inl _ :: S' => zjmp pc off (fun t => k t S' ∧ k (pc + 3) S')
    | _ => False
  | _ => False
def zc0 (c : ClassFile.Cond) (x : Int) : Prop := match c with
  | .eq => x = 0
  | .ne => x ≠ 0
  | .lt => x < 0
  | .ge => 0 ≤ x
  | .gt => 0 < x
  | .le => x ≤ 0
def zn0 (c : ClassFile.Cond) (x : Int) : Prop := match c with
  | .eq => x ≠ 0
  | .ne => x = 0
  | .lt => 0 ≤ x
  | .ge => x < 0
  | .gt => x ≤ 0
  | .le => 0 < x
def zc2 (c : ClassFile.Cond) (x y : Int) : Prop := match c with
  | .eq => x = y
  | .ne => x ≠ y
  | .lt => x < y
  | .ge => y ≤ x
  | .gt => y < x
  | .le => x ≤ y
def zn2 (c : ClassFile.Cond) (x y : Int) : Prop := match c with
  | .eq => x ≠ y
  | .ne => x = y
  | .lt => y ≤ x
  | .ge => x < y
  | .gt => x ≤ y
  | .le => y < x
def ztb (x : Int) (pc : Nat) (f : Nat → Prop) : List Int → Int → Prop
  | [], _ => True
  | o :: l, v => (x = v → zjmp pc o f) ∧ ztb x pc f l (v + 1)
def zlk (x : Int) (pc : Nat) (f : Nat → Prop) : List (Int × Int) → Prop
  | [] => True
  | q :: l => (x = q.1 → zjmp pc q.2 f) ∧ zlk x pc f l
def zno (x : Int) : List (Int × Int) → Prop
  | [] => True
  | q :: l => x ≠ q.1 ∧ zno x l
/-- fields of the kinds: level, op -/
def zkv (j a : Nat) : Option Int := match pm_kv pm_kof a j with
  | some (.int x) => some x.toInt
  | _ => none
def zlev (a : Nat) : Int := (zkv 1 a).getD 0
def zop (a : Nat) : Int := (zkv 2 a).getD 0
/-- a method's run, in whole numbers: it ends, with Q of the answer and the heap -/
def pzV (d mj : Nat) (as : List zv) (h : zh) (Q : zF → zF → zF → Nat → zT → Prop) : Prop := px d mj 0 (lv_args 0 (as.map zV)) [] (zc h) (fun v h1 => ∃ A B Y K T, v = none ∧ h1 = zc (A, B, Y, K, T) ∧ Q A B Y K T)
def pzI (d mj : Nat) (as : List zv) (h : zh) (Q : Int → zF → zF → zF → Nat → zT → Prop) : Prop := px d mj 0 (lv_args 0 (as.map zV)) [] (zc h) (fun v h1 => ∃ n A B Y K T, v = some (.int (Int32.ofInt n)) ∧ h1 = zc (A, B, Y, K, T) ∧ Q n A B Y K T)
def pzR (d mj : Nat) (as : List zv) (h : zh) (Q : Nat → zF → zF → zF → Nat → zT → Prop) : Prop := px d mj 0 (lv_args 0 (as.map zV)) [] (zc h) (fun v h1 => ∃ n A B Y K T, v = some (.ref n) ∧ h1 = zc (A, B, Y, K, T) ∧ Q n A B Y K T)
def zcl (d mj : Nat) (as : List zv) (h : zh) (k : List zv → zh → Prop) : Prop := 0 < d ∧ (match pm_rt mj with
  | none => pzV (d - 1) mj as h (fun A B Y K T => k [] (A, B, Y, K, T))
  | some (.object _) => pzR (d - 1) mj as h (fun n A B Y K T => k [.inr (.inr n)] (A, B, Y, K, T))
  | some _ => pzI (d - 1) mj as h (fun n A B Y K T => k [.inl n] (A, B, Y, K, T)))
/-- the receiver -/
def zrv (a mj : Nat) (X : Prop) : Prop := bif Nat.beq (pm_ow mj) 7 then ((1000 ≤ a ∧ a < 1039) ∧ X) else (bif Nat.beq (pm_ow mj) 8 then ((3000 ≤ a ∧ a < 3039) ∧ X) else (bif Nat.blt a 1000 && (Nat.blt (pm_ow mj) 7 && pm_isO pm_swA a (pm_ow mj)) then X else False))
/-- System.arraycopy of ints or chars between two cells -/
def zcp (d : Nat) (h : zh) (S : List zv) (k : List zv → zh → Prop) : Prop := match S with
  | .inl n :: .inl dp :: .inr (.inr b) :: .inl sp :: .inr (.inr a) :: S' => bif (Nat.blt a pm_swA.length && (Nat.blt b pm_swA.length && Nat.beq (pm_sh pm_swA a).1 (pm_sh pm_swA b).1)) && ((Nat.beq (pm_sh pm_swA a).1 1 || Nat.beq (pm_sh pm_swA a).1 2) && Nat.ble (zcats S') 8) then
      ((0 ≤ sp ∧ 0 ≤ dp ∧ 0 ≤ n) ∧ (sp + n ≤ ((pm_sh pm_swA a).2 : Int) ∧ dp + n ≤ ((pm_sh pm_swA b).2 : Int)) ∧ (bif Nat.beq (pm_sh pm_swA a).1 2 then (∀ j : Nat, 0 ≤ zrd h a j ∧ zrd h a j < 65536) else True) ∧ 0 < d ∧
        k S' (zwa h b (fun j => if dp.toNat ≤ j ∧ j < dp.toNat + n.toNat then zrd h a (sp.toNat + (j - dp.toNat)) else zrd h b j))) else False
  | _ => False
/-- a step that asks for something -/
def zb (d mi : Nat) (md : Bool) (Q : Option zv → zh → Prop) (lf : Nat → zM → List zv → zh → Prop) (i : Instr) (pc : Nat) (M : zM) (S : List zv) (h : zh) (k : Nat → zM → List zv → zh → Prop) : Prop := match i with
  | .ifCond c off => match S with
    | .inl x :: S' => zjmp pc off (fun t => (-2147483648 ≤ x ∧ x < 2147483648) ∧ (zc0 c x → k t M S' h) ∧ (zn0 c x → k (pc + 3) M S' h))
    | _ => False
  | .if_icmp c off => match S with
    | .inl y :: .inl x :: S' => zjmp pc off (fun t => (-2147483648 ≤ x ∧ x < 2147483648) ∧ (-2147483648 ≤ y ∧ y < 2147483648) ∧ (zc2 c x y → k t M S' h) ∧ (zn2 c x y → k (pc + 3) M S' h))
    | _ => False
  | .if_acmp c off => match S with
    | .inr (.inr y) :: .inr (.inr x) :: S' => zjmp pc off (fun t => (1000 ≤ x ∧ x < 1064) ∧ (1000 ≤ y ∧ y < 1064) ∧ (match c with
      | .eq => (x = y → k t M S' h) ∧ (x ≠ y → k (pc + 3) M S' h)
      | .ne => (x ≠ y → k t M S' h) ∧ (x = y → k (pc + 3) M S' h)))
    | _ => False
  | .tableswitch dd lo hi offs => match S with
    | .inl x :: S' => (-2147483648 ≤ x ∧ x < 2147483648) ∧ ((x < lo ∨ hi < x) → zjmp pc dd (fun t => k t M S' h)) ∧ (bif decide (lo + (offs.toList.length : Int) = hi + 1) then ztb x pc (fun t => k t M S' h) offs.toList lo else False)
    | _ => False
  | .lookupswitch dd ps => match S with
    | .inl x :: S' => bif (ps.toList.zip (ps.toList.drop 1)).all (fun (a, next) => a.1 < next.1) then (-2147483648 ≤ x ∧ x < 2147483648) ∧ zlk x pc (fun t => k t M S' h) ps.toList ∧ (zno x ps.toList → zjmp pc dd (fun t => k t M S' h)) else False
    | _ => False
  | .i2l => match S with
    | .inl x :: S' => (-2147483648 ≤ x ∧ x < 2147483648) ∧ k (pc + 1) M (.inr (.inl x) :: S') h
    | _ => False
  | .l2i => match S with
    | .inr (.inl x) :: S' => k (pc + 1) M (.inl x :: S') h
    | _ => False
  | .lcmp => match S with
    | .inr (.inl y) :: .inr (.inl x) :: S' => (-9223372036854775808 ≤ x ∧ x < 9223372036854775808) ∧ (-9223372036854775808 ≤ y ∧ y < 9223372036854775808) ∧ (x < y → k (pc + 1) M (.inl (-1) :: S') h) ∧ (x = y → k (pc + 1) M (.inl 0 :: S') h) ∧ (y < x → k (pc + 1) M (.inl 1 :: S') h)
    | _ => False
  | .getfield idx => match S with
    | .inr (.inr a) :: S' => (match pm_kf (pm_ow mi) idx with
      | some 1 => (1000 ≤ a ∧ a < 1039) ∧ k (pc + 3) M (.inl (zlev a) :: S') h
      | some 2 => (1000 ≤ a ∧ a < 1039) ∧ k (pc + 3) M (.inl (zop a) :: S') h
      | some 0 => (1000 ≤ a ∧ a < 1039) ∧ k (pc + 3) M (.inr (.inr (a + 2000)) :: S') h
      | some _ => False
      | none => match pm_gf (pm_ow mi) idx with
        | some (ci, kk) => bif Nat.blt a 1000 && pm_isO pm_swA a ci then (match (pm_ft ci)[kk]? with
          | some ty => (match pm_cat ty with
            | 0 => k (pc + 3) M (.inl (zrd h a kk) :: S') h
            | 1 => k (pc + 3) M (.inr (.inl (h.2.2.1 a kk)) :: S') h
            | _ => match pg_r (some h.2.2.2.1) h.2.2.2.2 a kk with
              | some r => k (pc + 3) M (.inr (.inr r) :: S') h
              | none => False)
          | none => False) else False
        | none => False)
    | _ => False
  | .getstatic idx => (match pm_gs (pm_ow mi) idx with
    | some j => k (pc + 3) M (.inr (.inr (pm_kst.getD j ("", "", "", 0)).2.2.2) :: S) h
    | none => bif pm_isn (pm_ow mi) idx then k (pc + 3) M (.inr (.inr 2000) :: S) h else False)
  | .ldc2_w idx => (match pm_kl (pm_ow mi) idx with
    | some v => k (pc + 3) M (.inr (.inl v.toInt) :: S) h
    | none => False)
  | .arraylength => match S with
    | .inr (.inr a) :: S' => bif Nat.beq a 2000 then k (pc + 1) M (.inl 39 :: S') h else (bif Nat.blt a pm_swA.length && Nat.blt (pm_sh pm_swA a).1 6 then k (pc + 1) M (.inl ((pm_sh pm_swA a).2 : Int) :: S') h else False)
    | _ => False
  | .iaload => match S with
    | .inl j :: .inr (.inr a) :: S' => bif pm_isA pm_swA a 1 then (0 ≤ j ∧ j < ((pm_sh pm_swA a).2 : Int)) ∧ k (pc + 1) M (.inl (zrd h a j.toNat) :: S') h else False
    | _ => False
  | .caload => match S with
    | .inl j :: .inr (.inr a) :: S' => bif pm_isA pm_swA a 2 then (0 ≤ j ∧ j < ((pm_sh pm_swA a).2 : Int)) ∧ k (pc + 1) M (.inl (zrd h a j.toNat) :: S') h else False
    | _ => False
  | .baload => match S with
    | .inl j :: .inr (.inr a) :: S' => bif pm_isA pm_swA a 3 then (0 ≤ j ∧ j < ((pm_sh pm_swA a).2 : Int)) ∧ k (pc + 1) M (.inl (zrd h a j.toNat) :: S') h else False
    | _ => False
  | .aaload => match S with
    | .inl j :: .inr (.inr a) :: S' => bif Nat.beq a 2000 then (0 ≤ j ∧ j < 39) ∧ k (pc + 1) M (.inr (.inr (1000 + j.toNat)) :: S') h else (bif Nat.beq a 21 then (0 ≤ j ∧ j < 3001) ∧ h.2.2.2.2 j.toNat ≠ none ∧ (∀ r, h.2.2.2.2 j.toNat = some r → k (pc + 1) M (.inr (.inr r) :: S') h) else False)
    | _ => False
  | .putfield idx => match S with
    | v :: .inr (.inr a) :: S' => (match pm_gf (pm_ow mi) idx with
      | some (ci, kk) => bif pm_isO pm_swA a ci && !((pm_clN ci).2.1 kk).2.2.2 then (match (pm_ft ci)[kk]? with
        | some .int => (match v with
          | .inl x => k (pc + 3) M S' (zwr h a kk x)
          | _ => False)
        | some .boolean => (match v with
          | .inl x => (x = 0 ∨ x = 1) ∧ k (pc + 3) M S' (zwr h a kk x)
          | _ => False)
        | some .long => (match v with
          | .inr (.inl x) => k (pc + 3) M S' (h.1, h.2.1, zu h.2.2.1 a kk x, h.2.2.2.1, h.2.2.2.2)
          | _ => False)
        | some (.object _) => (match v with
          | .inr (.inr r) => bif Nat.beq a 19 && Nat.beq kk 9 then k (pc + 3) M S' (h.1, h.2.1, h.2.2.1, r, h.2.2.2.2) else False
          | _ => False)
        | _ => False) else False
      | none => False)
    | _ => False
  | .iastore => match S with
    | .inl x :: .inl j :: .inr (.inr a) :: S' => bif pm_isA pm_swA a 1 then (0 ≤ j ∧ j < ((pm_sh pm_swA a).2 : Int)) ∧ k (pc + 1) M S' (zwr h a j.toNat x) else False
    | _ => False
  | .castore => match S with
    | .inl x :: .inl j :: .inr (.inr a) :: S' => bif pm_isA pm_swA a 2 then (0 ≤ j ∧ j < ((pm_sh pm_swA a).2 : Int)) ∧ (0 ≤ x ∧ x < 65536) ∧ k (pc + 1) M S' (zwr h a j.toNat x) else False
    | _ => False
  | .bastore => match S with
    | .inl x :: .inl j :: .inr (.inr a) :: S' => bif pm_isA pm_swA a 3 then (0 ≤ j ∧ j < ((pm_sh pm_swA a).2 : Int)) ∧ (x = 0 ∨ x = 1) ∧ k (pc + 1) M S' (zwr h a j.toNat x) else False
    | _ => False
  | .aastore => match S with
    | .inr (.inr x) :: .inl j :: .inr (.inr a) :: S' => bif Nat.beq a 21 then (0 ≤ j ∧ j < 3001) ∧ (1000 ≤ x ∧ x < 1039) ∧ k (pc + 1) M S' (h.1, h.2.1, h.2.2.1, h.2.2.2.1, zut h.2.2.2.2 j.toNat x) else False
    | _ => False
  | .ireturn => bif md then lf pc M S h else (match S with
    | [.inl x] => (match pm_rt mi with
      | some .int => Q (some (.inl x)) h
      | some .boolean => (x = 0 ∨ x = 1) ∧ Q (some (.inl x)) h
      | some .char => (0 ≤ x ∧ x < 65536) ∧ Q (some (.inl x)) h
      | _ => False)
    | _ => False)
  | .return_ => bif md then lf pc M S h else (match S with
    | [] => (match pm_rt mi with
      | none => Q none h
      | _ => False)
    | _ => False)
  | .areturn => bif md then False else (match S with
    | [.inr (.inr a)] => (match pm_rt mi with
      | some (.object _) => Q (some (.inr (.inr a))) h
      | _ => False)
    | _ => False)
  | .new _ => bif md then lf pc M S h else False
  | .invokevirtual idx => (match pm_iv (pm_ow mi) idx with
    | some mj => (match S.drop (pm_np mj) with
      | .inr (.inr a) :: S' => bif (!pm_sc mj && !Nat.beq mj 167) && (Nat.beq (S.take (pm_np mj)).length (pm_np mj) && (Nat.ble (zcats S') 8 && Nat.ble (zcats (.inr (.inr a) :: (S.take (pm_np mj)).reverse)) (pm_mx mj))) then zrv a mj (zcl d mj (.inr (.inr a) :: (S.take (pm_np mj)).reverse) h (fun v h' => k (pc + 3) M (v ++ S') h')) else False
      | _ => False)
    | none => False)
  | .invokestatic idx => (match pm_iv (pm_ow mi) idx with
    | some mj => bif (pm_sc mj && !Nat.beq mj 167) && (Nat.beq (S.take (pm_np mj)).length (pm_np mj) && (Nat.ble (zcats (S.drop (pm_np mj))) 8 && Nat.ble (zcats (S.take (pm_np mj)).reverse) (pm_mx mj))) then zcl d mj (S.take (pm_np mj)).reverse h (fun v h' => k (pc + 3) M (v ++ S.drop (pm_np mj)) h') else False
    | none => bif pm_isac (pm_ow mi) idx then zcp d h S (fun S' h' => k (pc + 3) M S' h') else False)
  | .ior => match S with
    | .inl y :: .inl x :: S' => (x = 0 ∨ x = 1) ∧ (y = 0 ∨ y = 1) ∧ (∀ c : Int, (c = 0 ∨ c = 1) → k (pc + 1) M (.inl c :: S') h)
    | _ => False
  | _ => zhv i pc S (fun pc' S' => k pc' M S' h)
def zin : List Nat → Nat → Bool
  | [], _ => false
  | a :: l, k => bif Nat.beq a k then true else zin l k
def zfs : List (Nat × List Nat) → Nat → Option (List Nat)
  | [], _ => none
  | q :: l, k => bif Nat.beq q.1 k then some q.2 else zfs l k
def zbody (hv : List Nat) (d mi : Nat) (md : Bool) (Q : Option zv → zh → Prop) (lf : Nat → zM → List zv → zh → Prop) (pc : Nat) (M : zM) (S : List zv) (h : zh) (k : Nat → zM → List zv → zh → Prop) : Prop := match pm_fd (pm_code mi) pc with
  | none => False
  | some i => bif zin hv pc then zhv i pc S (fun pc' S' => k pc' M S' h) else (match zstep i (pm_mx mi) pc M S with
    | some (pc', M', S') => k pc' M' S' h
    | none => zb d mi md Q lf i pc M S h k)
/-- what must hold at a place: computed over at most n steps, up to the stops -/
def wz (st : List (Nat × List Nat)) (hv : List Nat) (d mi : Nat) (md : Bool) (Q : Option zv → zh → Prop) (lf : Nat → zM → List zv → zh → Prop) : Nat → Nat → zM → List zv → zh → Prop
  | 0, pc, M, S, h => lf pc M S h
  | n + 1, pc, M, S, h => zbody hv d mi md Q lf pc M S h (fun pc' M' S' h' => match zfs st pc' with
    | some F => lf pc' (zfor F M') S' h'
    | none => wz st hv d mi md Q lf n pc' M' S' h')
