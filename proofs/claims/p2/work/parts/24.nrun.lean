/-! Constructors: a pure machine that makes cells. A new cell gets the next number; its address is the next one of the heap. -/
set_option maxRecDepth 100000 in
theorem pn_code_all : (List.range 7).all (fun ci => (pn_code ci).all (pm_okc (pn_by ci))) = true := by decide +kernel
theorem pn_decode {ci pc : Nat} {i : Instr} (hc : ci < 7) (h : pm_fd (pn_code ci) pc = some i) : ∃ len, decode (pn_by ci) pc = .ok (i, len) ∧ (pm_ln i = 0 ∨ len = pm_ln i) := by
  have h1 := List.all_eq_true.mp (List.all_eq_true.mp pn_code_all ci (List.mem_range.mpr hc)) _ (pm_fd_mem h)
  unfold pm_okc at h1
  split at h1
  · rename_i j len e
    obtain ⟨h2, h3⟩ := Bool.and_eq_true_iff.mp h1
    have h4 : j = i := of_decide_eq_true h2
    subst h4
    refine ⟨len, e, ?_⟩
    rcases (Bool.or_eq_true_iff.mp h3) with h5 | h5
    · exact Or.inl (Nat.eq_of_beq_eq_true h5)
    · exact Or.inr (Nat.eq_of_beq_eq_true h5)
  · cases h1
def pn_zero (h : pm_H) (i : Nat) : pm_H := (va_up h.1 i (fun _ => 0), va_up h.2.1 i (fun _ => 0), va_up h.2.2 i (fun _ => none))
def pn_kd (t : ArrayType) : Nat := match t with
  | .int => 1
  | .char => 2
  | .boolean => 3
  | .long => 4
  | _ => 0
/-- what is made: its shape, the stack without its length -/
def pn_mk (i : Instr) (ow : Nat) (sw : List (Nat × Nat)) (S : List Value) : Option ((Nat × Nat) × List Value) := match i with
  | .new idx => match pm_f3 (pn_cll.getD ow []) idx with
    | some ci => bif Nat.blt ci 7 && Nat.blt sw.length 400 then some ((10 + ci, 0), S) else none
    | none => none
  | .newarray t => match S with
    | .int n :: S' => bif (!decide (n < 0) && Nat.ble n.toNatClampNeg 65536) && (Nat.blt sw.length 400 && Nat.blt 0 (pn_kd t)) then some ((pn_kd t, n.toNatClampNeg), S') else none
    | _ => none
  | .anewarray idx => match S with
    | .int n :: S' => match pm_f3 (pn_cll.getD ow []) idx with
      | some ci => bif Nat.beq ci 7 && ((!decide (n < 0) && Nat.ble n.toNatClampNeg 65536) && Nat.blt sw.length 400) then some ((5, n.toNatClampNeg), S') else none
      | none => none
    | _ => none
  | _ => none
/-- a final field -/
def pn_put (i : Instr) (sw : List (Nat × Nat)) (ow : Nat) (h : pm_H) (S : List Value) : Option (pm_H × List Value) := match i with
  | .putfield idx => match S with
    | .ref r :: .ref a :: S' => match pm_gf ow idx with
      | some (ci, k) => bif pm_isO sw a ci && (((pm_clN ci).2.1 k).2.2.2 && decide (((pm_clN ci).2.1 k).1 = pm_on ow)) then
          (match (pm_ft ci)[k]? with
            | some (.object _) => some (pm_setR h a k (some r), S')
            | some (.array _) => some (pm_setR h a k (some r), S')
            | _ => none)
          else none
      | none => none
    | _ => none
  | _ => none
def pn_sz (sh : Nat × Nat) : Nat := bif Nat.blt sh.1 6 then sh.2 else (pm_clN (sh.1 - 10)).2.2
def pn_tot : List (Nat × Nat) → Nat
  | [] => 0
  | q :: l => pn_sz q + pn_tot l
def pn_run : Nat → Nat → Nat → Nat → pm_L → List Value → List (Nat × Nat) → pm_H → Option (List (Nat × Nat) × pm_H)
  | 0, _, _, _, _, _, _, _ => none
  | n + 1, d, ci, pc, L, S, sw, h => match pm_fd (pn_code ci) pc with
    | none => none
    | some i => match pm_push i L with
      | some v => pn_run n d ci (pc + pm_ln i) L (v :: S) sw h
      | none => match pm_ari i S with
        | some S' => pn_run n d ci (pc + pm_ln i) L S' sw h
        | none => match pm_read i sw ci h S with
          | some S' => pn_run n d ci (pc + pm_ln i) L S' sw h
          | none => match pm_write i sw ci h S with
            | some (h', S') => pn_run n d ci (pc + pm_ln i) L S' sw h'
            | none => match pn_put i sw ci h S with
              | some (h', S') => pn_run n d ci (pc + pm_ln i) L S' sw h'
              | none => match pn_mk i ci sw S with
                | some (sh, S') => pn_run n d ci (pc + pm_ln i) L (.ref sw.length :: S') (sw ++ [sh]) (pn_zero h sw.length)
                | none => match i with
                  | .return_ => (match S with
                    | [] => some (sw, h)
                    | _ => none)
                  | .invokespecial idx => (match pm_f3 (pn_ivl.getD ci []) idx with
                    | some cj => (match d with
                      | 0 => none
                      | d' + 1 => bif Nat.beq cj 7 then (match S with
                          | .ref _ :: S' => bif Nat.ble (pm_cats S') 8 then pn_run n (d' + 1) ci (pc + 3) L S' sw h else none
                          | _ => none)
                        else (match S.drop (pn_np cj) with
                          | .ref a :: S' => bif (Nat.blt cj 7 && Nat.beq (S.take (pn_np cj)).length (pn_np cj)) && (Nat.ble (pm_cats S') 8 && Nat.ble (lg_sl (.ref a :: (S.take (pn_np cj)).reverse)).length (pn_mx cj)) then
                              (match pn_run n d' cj 0 (lv_args 0 (.ref a :: (S.take (pn_np cj)).reverse)) [] sw h with
                                | some (sw', h') => pn_run n (d' + 1) ci (pc + 3) L S' sw' h'
                                | none => none)
                              else none
                          | _ => none))
                    | none => none)
                  | _ => none
theorem pn_tot_app (a b : List (Nat × Nat)) : pn_tot (a ++ b) = pn_tot a + pn_tot b := by
  induction a with
  | nil => show pn_tot b = 0 + pn_tot b; omega
  | cons q a ih => show pn_sz q + pn_tot (a ++ b) = pn_sz q + pn_tot a + pn_tot b; omega
theorem pm_bifR {α : Type} {b : Bool} {x : Option α} {y : α} (h : (bif b then x else none) = some y) : b = true ∧ x = some y := by
  cases b with
  | true => exact ⟨rfl, h⟩
  | false => cases h
theorem pn_mono : ∀ (n d ci pc : Nat) (L : pm_L) (S : List Value) (sw : List (Nat × Nat)) (h : pm_H) (sw' : List (Nat × Nat)) (h' : pm_H), pn_run n d ci pc L S sw h = some (sw', h') → sw.length ≤ sw'.length ∧ pn_tot sw ≤ pn_tot sw' := by
  intro n
  induction n with
  | zero => intro d ci pc L S sw h sw' h' hr; cases hr
  | succ n ih =>
    intro d ci pc L S sw h sw' h' hr
    unfold pn_run at hr
    split at hr
    · cases hr
    split at hr
    · exact ih _ _ _ _ _ _ _ _ _ hr
    split at hr
    · exact ih _ _ _ _ _ _ _ _ _ hr
    split at hr
    · exact ih _ _ _ _ _ _ _ _ _ hr
    split at hr
    · exact ih _ _ _ _ _ _ _ _ _ hr
    split at hr
    · exact ih _ _ _ _ _ _ _ _ _ hr
    split at hr
    · have h1 := ih _ _ _ _ _ _ _ _ _ hr
      rw [List.length_append, pn_tot_app] at h1
      exact ⟨by omega, by omega⟩
    split at hr
    · split at hr
      · cases hr; exact ⟨Nat.le_refl _, Nat.le_refl _⟩
      · cases hr
    · split at hr
      · split at hr
        · cases hr
        · rename_i cj _ _ d'
          cases hb : Nat.beq cj 7 with
          | true =>
            rw [hb] at hr
            dsimp only [cond] at hr
            split at hr
            · exact ih _ _ _ _ _ _ _ _ _ (pm_bifR hr).2
            · cases hr
          | false =>
            rw [hb] at hr
            dsimp only [cond] at hr
            split at hr
            · have hr := (pm_bifR hr).2
              split at hr
              · rename_i sw2 h2 hc
                have h1 := ih _ _ _ _ _ _ _ _ _ hc
                have h3 := ih _ _ _ _ _ _ _ _ _ hr
                exact ⟨by omega, by omega⟩
              · cases hr
            · cases hr
      · cases hr
    · cases hr
