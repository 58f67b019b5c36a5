/-! Constructors: the words, the new cells -/
def pn_ws (ci : Nat) : List Cond := Cond.code (pn_nm ci) (pn_by ci) (pn_mx ci) none :: pm_G
set_option maxRecDepth 100000 in
theorem pn_mA : (List.range 7).all (fun ci => pm_inG (pn_mp.getD ci (0, 0, 0, 0)).2.1 (Cond.instanceMethod (pn_nm ci)) && (pm_inG (pn_mp.getD ci (0, 0, 0, 0)).2.2.1 (Cond.initialized (pm_on ci)) && (pm_inG (pn_mp.getD ci (0, 0, 0, 0)).2.2.2 (Cond.instantiable (pm_on ci) (pm_clN ci).2.2) && (plainFor (pn_nm ci) && (decide ((pn_nm ci).cls = pm_on ci) && (decide ((pn_nm ci).name = "<init>") && (decide ((parseMethodDescriptor (pn_nm ci).desc).map (fun d => d.parameters.length) = some (pn_np ci)) && (Nat.ble (pn_mx ci) 20 && (decide ((pn_nm ci).cls ≠ "java/lang/invoke/MethodHandle") && (decide ((pn_nm ci).cls ≠ "java/lang/invoke/VarHandle") && decide ((pm_clN ci).1 = pm_on ci))))))))))) = true := by decide +kernel
set_option maxRecDepth 100000 in
theorem pn_mH : (List.range 7).map (fun ci => lw_tbl[(pn_mp.getD ci (0, 0, 0, 0)).1]?) = (List.range 7).map (fun ci => some (Cond.code (pn_nm ci) (pn_by ci) (pn_mx ci) none)) := by rfl
theorem pn_G_all {ci : Nat} (h : ci < 7) : Cond.code (pn_nm ci) (pn_by ci) (pn_mx ci) none ∈ pm_G := by
  have h1 : ((List.range 7).map (fun ci => lw_tbl[(pn_mp.getD ci (0, 0, 0, 0)).1]?))[ci]? = ((List.range 7).map (fun ci => some (Cond.code (pn_nm ci) (pn_by ci) (pn_mx ci) none)))[ci]? := by rw [pn_mH]
  rw [List.getElem?_map, List.getElem?_map, List.getElem?_range h] at h1
  exact List.mem_filter.mpr ⟨List.mem_of_getElem? (Option.some.inj h1), rfl⟩
set_option maxRecDepth 100000 in
theorem pn_ob : (pm_inG pn_obp.1 (Cond.instanceMethod Lib.objectInit) && pm_inG pn_obp.2 (Cond.code Lib.objectInit ⟨#[0xb1]⟩ 1 none)) = true := by decide +kernel
set_option maxRecDepth 100000 in
theorem pn_iv_all : (List.range 7).all (fun o => (pn_ivl.getD o []).all (fun e => Nat.blt e.2.1 8 && pm_inG e.2.2 (Cond.methodLink (pm_on o) e.1 (bif Nat.beq e.2.1 7 then Lib.objectInit else pn_nm e.2.1)))) = true := by decide +kernel
set_option maxRecDepth 100000 in
theorem pn_cl_all : (List.range 7).all (fun o => (pn_cll.getD o []).all (fun e => pm_inG e.2.2 (Cond.classLink (pm_on o) e.1 (bif Nat.beq e.2.1 7 then "QuietChecker$Kind" else pm_on e.2.1)))) = true := by decide +kernel
set_option maxRecDepth 100000 in
theorem pn_ac_all : (pm_inG (pn_acp.getD 0 0) (Cond.arrayClass .byte) && (pm_inG (pn_acp.getD 1 0) (Cond.arrayClass .int) && (pm_inG (pn_acp.getD 2 0) (Cond.arrayClass .char) && (pm_inG (pn_acp.getD 3 0) (Cond.arrayClass .boolean) && pm_inG (pn_acp.getD 4 0) (Cond.arrayClass .long))))) = true := by decide +kernel
set_option maxRecDepth 100000 in
theorem pn_ao : decide (lw_tbl[pn_aop]? = some (Cond.arrayOver (.object "QuietChecker$Kind"))) = true := by decide +kernel
theorem pn_own7 {α : Type} {l : List (List α)} {o : Nat} {a : α} (hl : l.length = 7) (h : a ∈ l.getD o []) : o < 7 := by
  rcases Nat.lt_or_ge o 7 with h1 | h1
  · exact h1
  · rw [List.getD_eq_getElem?_getD, List.getElem?_eq_none (by omega)] at h
    cases h
theorem pn_iv_ok {o idx cj : Nat} (h : pm_f3 (pn_ivl.getD o []) idx = some cj) : cj < 8 ∧ Cond.methodLink (pm_on o) idx (bif Nat.beq cj 7 then Lib.objectInit else pn_nm cj) ∈ pm_G := by
  obtain ⟨p, hp⟩ := pm_f3_mem h
  have h1 := List.all_eq_true.mp (List.all_eq_true.mp pn_iv_all o (List.mem_range.mpr (pn_own7 (by rfl) hp))) _ hp
  obtain ⟨h2, h3⟩ := Bool.and_eq_true_iff.mp h1
  exact ⟨pm_blt h2, pm_mem h3⟩
theorem pn_cl_ok {o idx cj : Nat} (h : pm_f3 (pn_cll.getD o []) idx = some cj) : Cond.classLink (pm_on o) idx (bif Nat.beq cj 7 then "QuietChecker$Kind" else pm_on cj) ∈ pm_G := by
  obtain ⟨p, hp⟩ := pm_f3_mem h
  exact pm_mem (List.all_eq_true.mp (List.all_eq_true.mp pn_cl_all o (List.mem_range.mpr (pn_own7 (by rfl) hp))) _ hp)
def pn_oky (ty : FieldType) : Bool := match ty with
  | .float => false
  | .double => false
  | _ => true
set_option maxRecDepth 100000 in
theorem pn_oky_all : (List.range 7).all (fun ci => (pm_ft ci).all pn_oky) = true := by decide +kernel
section PN1
variable {cy : Nat → ClassId} {rho : Nat → Nat} {sw : List (Nat × Nat)} {h : pm_H}
theorem pn_but (i : Nat) : pm_but i h (pn_zero h i) := fun j hj => ⟨va_up_ne _ _ hj, va_up_ne _ _ hj, va_up_ne _ _ hj⟩
theorem pn_dflt {i k : Nat} {ty : FieldType} (ho : pn_oky ty = true) : defaultValue ty = pm_fv rho (pn_zero h i) i k ty := by
  unfold pm_fv pn_zero
  dsimp only
  rw [va_up_self, va_up_self, va_up_self]
  cases ty <;> first | rfl | cases ho
theorem pn_sh_app {sh : Nat × Nat} {i : Nat} (hi : i < sw.length) : pm_sh (sw ++ [sh]) i = pm_sh sw i := by
  unfold pm_sh
  rw [List.getD_eq_getElem?_getD, List.getD_eq_getElem?_getD, List.getElem?_append_left hi]
theorem pn_sh_new {sh : Nat × Nat} : pm_sh (sw ++ [sh]) sw.length = sh := by
  unfold pm_sh
  rw [List.getD_eq_getElem?_getD, List.getElem?_append_right (Nat.le_refl _), Nat.sub_self]
  rfl
theorem pn_W_app {sh : Nat × Nat} : pm_W cy rho (sw ++ [sh]) (pn_zero h sw.length) = pm_W cy rho sw h ++ [(rho sw.length, pm_E cy rho (pn_zero h sw.length) sh sw.length)] := by
  apply List.ext_getElem?
  intro j
  rcases Nat.lt_trichotomy j sw.length with hj | hj | hj
  · rw [pm_W_at (by rw [List.length_append]; exact Nat.lt_add_right _ hj), List.getElem?_append_left (by rw [pm_W_len]; exact hj), pm_W_at hj, pn_sh_app hj, pm_E_but (pn_but _) (Nat.ne_of_lt hj)]
  · subst hj
    rw [pm_W_at (by rw [List.length_append]; exact Nat.lt_succ_self _), List.getElem?_append_right (by rw [pm_W_len]; exact Nat.le_refl _), pm_W_len, Nat.sub_self, pn_sh_new]
    rfl
  · rw [List.getElem?_eq_none (by rw [pm_W_len, List.length_append]; exact hj), List.getElem?_eq_none (by rw [List.length_append, pm_W_len]; exact hj)]
end PN1
section PN2
variable {p : Program} {l : Launch} {e : Env} {R : Room} {s : State} {m : MethodId} {args : Array Value} {below : List Frame} {meth : Method} {c : Code} {H : Heap} {locs : List Loc} {cells slots : Nat} {Q : State → Prop} {cc : ByteArray} {pc : Nat} {ls : Array Slot} {rho : Nat → Nat} {S S' : List Value} {D : va_G} {cy : Nat → ClassId} {sw : List (Nat × Nat)} {h h' : pm_H} {A : Nat → Prop} {Ts : List Cond} {ow : Nat}
/-- the world with a new cell at the heap's end -/
theorem pn_grown {H1 : Heap} {sh : Nat × Nat} (hP : va_P D pm_cl (pm_W cy rho sw h) H) (hD : va_D A (pm_W cy rho sw h)) (hS : va_S A s.heap H locs) (hA : ∀ q, s.heap.size ≤ q → A q) (hsz : H.size = rho sw.length) (z1 : H1.size = H.size + 1) (o1 : ∀ q : Nat, q < H.size → H1[q]? = H[q]?) (hat : va_at D pm_cl (rho sw.length, pm_E cy rho (pn_zero h sw.length) sh sw.length) H1) : va_P D pm_cl (pm_W cy rho (sw ++ [sh]) (pn_zero h sw.length)) H1 ∧ va_D A (pm_W cy rho (sw ++ [sh]) (pn_zero h sw.length)) ∧ va_S A s.heap H1 locs := by
  rw [pn_W_app]
  have hk : ∀ (k : Nat) (x : Nat × va_E), (pm_W cy rho sw h)[k]? = some x → H1[x.1]? = H[x.1]? := fun k x hx => o1 x.1 ((hP k x hx).lt)
  refine ⟨(hP.kept hk).app (fun k x hx => ?_), hD.push hP hsz.symm (by rw [← hsz]; exact hA _ hS.1), ⟨Nat.le_trans hS.1 (by omega), fun x h1 h2 => (o1 x (Nat.lt_of_lt_of_le h1 hS.1)).trans (hS.2.1 x h1 h2), hS.2.2⟩⟩
  have hz : k < 1 := (List.getElem?_eq_some_iff.mp hx).1
  rw [show k = 0 by omega] at hx
  cases hx
  exact hat
theorem pn_nlt {n : Int32} (h : (!decide (n < 0)) = true) : ¬ n < 0 := of_decide_eq_false (pm_not h)
set_option maxRecDepth 10000 in
theorem pn_mk_snd (hx : p.tables.exec = Jvm.exec) (hb : c.code = cc) (hts : ∀ w ∈ Ts, w.before args s = true) (hG : ∀ w ∈ pm_G, w ∈ Ts) (hown : s.vm.findClass (pm_on ow) = some m.cls) (hK : va_K D pm_cl (pm_tys cy) s) (hP : va_P D pm_cl (pm_W cy rho sw h) H) (hD : va_D A (pm_W cy rho sw h)) (hS : va_S A s.heap H locs) (hA : ∀ q, s.heap.size ≤ q → A q) (hsz : H.size = rho sw.length) (hAO : va_AO "QuietChecker$Kind" s)
    {i : Instr} {sh : Nat × Nat} (hdg : decode cc pc = .ok (i, pm_ln i)) (hr : pn_mk i ow sw S = some (sh, S')) (hc : cells + 1 ≤ R.cells) (hs : slots + pn_sz sh ≤ R.slots)
    (k : ∀ (H1 : Heap), va_P D pm_cl (pm_W cy rho (sw ++ [sh]) (pn_zero h sw.length)) H1 → va_D A (pm_W cy rho (sw ++ [sh]) (pn_zero h sw.length)) → va_S A s.heap H1 locs → H1.size = H.size + 1 → W p l e R s m args below meth c H1 locs (cells + 1) (slots + pn_sz sh) Q (F0 m (pc + pm_ln i) ls (.ref (rho sw.length) :: pm_cS rho S'))) : W p l e R s m args below meth c H locs cells slots Q (F0 m pc ls (pm_cS rho S)) := by
  unfold pn_mk at hr
  split at hr
  · split at hr
    · rename_i idx _ ci hcl
      obtain ⟨hg, he⟩ := pm_bif hr
      cases he
      obtain ⟨g1, g2⟩ := Bool.and_eq_true_iff.mp hg
      have hci := pm_blt g1
      have hne : Nat.beq ci 7 = false := by
        cases hz : Nat.beq ci 7 with
        | false => rfl
        | true => have := Nat.eq_of_beq_eq_true hz; omega
      have hlink := pn_cl_ok hcl
      rw [hne] at hlink
      dsimp only [cond] at hlink
      have hA1 := List.all_eq_true.mp pn_mA ci (List.mem_range.mpr hci)
      simp only [Bool.and_eq_true, decide_eq_true_eq] at hA1
      obtain ⟨-, w2, w3, -, -, -, -, -, -, -, w4⟩ := hA1
      have hKn := hK.1 ci _ (pm_cl_at hci)
      have hsl : pn_sz (10 + ci, 0) = (pm_clN ci).2.2 := by
        unfold pn_sz
        dsimp only
        have : Nat.blt (10 + ci) 6 = false := by
          cases hz : Nat.blt (10 + ci) 6 with
          | false => rfl
          | true => have := pm_blt hz; omega
        rw [this]
        dsimp only [cond]
        rw [Nat.add_sub_cancel_left]
      rw [hsl] at hs k
      rw [← hsz] at k
      refine W.newcK (C := pm_on ci) (n := (pm_clN ci).2.2) hx hb hown (hts _ (hG _ hlink)) (hts _ (hG _ (pm_mem w3))) (hts _ (hG _ (pm_mem w2))) rfl hdg hc hs (by rw [← w4]; exact hKn.2.1) rfl fun H1 kC hkC e1 z1 o1 => ?_
      obtain ⟨r1, r2, r3⟩ := pn_grown (sh := (10 + ci, 0)) hP hD hS hA hsz z1 o1 (by
        rw [pm_E_O rfl]
        refine ⟨pm_clN ci, pm_cl_at hci, ?_⟩
        rw [hsz] at e1
        refine (u_born (pm_clY ci) hts (fun w hw => hG w (pm_uw hci w hw)) hKn hkC e1 (pm_cl_ty hci)).to (fun j hj => ?_)
        have hft : (pm_ft ci)[j]? = some (pm_clY ci j) := by
          rw [pm_ft_ok ci hci, List.getElem?_map, List.getElem?_range hj]
          rfl
        have hok : pn_oky (pm_clY ci j) = true := List.all_eq_true.mp (List.all_eq_true.mp pn_oky_all ci (List.mem_range.mpr hci)) _ (List.mem_of_getElem? hft)
        show _ = (pm_fs rho (pn_zero h sw.length) sw.length ci).getD j .null
        rw [List.getD_eq_getElem?_getD, pm_fs_at hft, pn_dflt (rho := rho) (h := h) (i := sw.length) (k := j) hok]
        rfl)
      exact k H1 r1 r2 r3 z1
    · cases hr
  · split at hr
    · rename_i at0 _ n S1
      obtain ⟨hg, he⟩ := pm_bif hr
      cases he
      obtain ⟨g1, g2⟩ := Bool.and_eq_true_iff.mp hg
      obtain ⟨g3, g4⟩ := Bool.and_eq_true_iff.mp g1
      obtain ⟨g5, g6⟩ := Bool.and_eq_true_iff.mp g2
      have hn := pn_nlt g3
      have hn2 := Nat.le_of_ble_eq_true g4
      have hw := pn_ac_all
      simp only [Bool.and_eq_true] at hw
      obtain ⟨-, w1, w2, w3, w4⟩ := hw
      rw [← hsz] at k
      cases at0 with
      | int =>
        refine va_newaK hx hb (hts _ (hG _ (pm_mem w1))) rfl hdg rfl hn rfl (by show _ * 4 ≤ _; omega) hc hs rfl fun H1 cA e1 z1 o1 hAr hNm => ?_
        have hcA : cA = cy 1 := Option.some.inj (hNm.symm.trans (hK.2 1 (cy 1, .int) rfl).2)
        subst hcA
        obtain ⟨r1, r2, r3⟩ := pn_grown (sh := (1, n.toNatClampNeg)) hP hD hS hA hsz z1 o1 (by
          show H1[rho sw.length]? = some (vp_cell (cy 1) (n.toNatClampNeg, Sum.inl (va_up h.1 sw.length (fun _ => 0) sw.length)))
          rw [va_up_self, ← hsz]
          exact e1)
        exact k H1 r1 r2 r3 z1
      | char =>
        refine va_newaK hx hb (hts _ (hG _ (pm_mem w2))) rfl hdg rfl hn rfl (by show _ * 2 ≤ _; omega) hc hs rfl fun H1 cA e1 z1 o1 hAr hNm => ?_
        have hcA : cA = cy 2 := Option.some.inj (hNm.symm.trans (hK.2 2 (cy 2, .char) rfl).2)
        subst hcA
        obtain ⟨r1, r2, r3⟩ := pn_grown (sh := (2, n.toNatClampNeg)) hP hD hS hA hsz z1 o1 (by
          show H1[rho sw.length]? = some (vp_cell (cy 2) (n.toNatClampNeg, Sum.inl (va_up h.1 sw.length (fun _ => 0) sw.length)))
          rw [va_up_self, ← hsz]
          exact e1)
        exact k H1 r1 r2 r3 z1
      | boolean =>
        refine va_newaK hx hb (hts _ (hG _ (pm_mem w3))) rfl hdg rfl hn rfl (by show _ * 1 ≤ _; omega) hc hs rfl fun H1 cA e1 z1 o1 hAr hNm => ?_
        have hcA : cA = cy 3 := Option.some.inj (hNm.symm.trans (hK.2 3 (cy 3, .boolean) rfl).2)
        subst hcA
        obtain ⟨r1, r2, r3⟩ := pn_grown (sh := (3, n.toNatClampNeg)) hP hD hS hA hsz z1 o1 (by
          show H1[rho sw.length]? = some (vp_cell (cy 3) (n.toNatClampNeg, Sum.inl (va_up h.1 sw.length (fun _ => 0) sw.length)))
          rw [va_up_self, ← hsz]
          exact e1)
        exact k H1 r1 r2 r3 z1
      | long =>
        refine va_newaK hx hb (hts _ (hG _ (pm_mem w4))) rfl hdg rfl hn rfl (by show _ * 8 ≤ _; omega) hc hs rfl fun H1 cA e1 z1 o1 hAr hNm => ?_
        have hcA : cA = cy 4 := Option.some.inj (hNm.symm.trans (hK.2 4 (cy 4, .long) rfl).2)
        subst hcA
        obtain ⟨r1, r2, r3⟩ := pn_grown (sh := (4, n.toNatClampNeg)) hP hD hS hA hsz z1 o1 (by
          show H1[rho sw.length]? = some (vp_cell (cy 4) (n.toNatClampNeg, Sum.inr (Sum.inl (va_up h.2.1 sw.length (fun _ => 0) sw.length))))
          rw [va_up_self, ← hsz]
          exact e1)
        exact k H1 r1 r2 r3 z1
      | _ => cases g6
    · cases hr
  · split at hr
    · split at hr
      · rename_i idx _ n S1 _ ci hcl
        obtain ⟨hg, he⟩ := pm_bif hr
        cases he
        obtain ⟨g1, g2⟩ := Bool.and_eq_true_iff.mp hg
        obtain ⟨g3, g4⟩ := Bool.and_eq_true_iff.mp g2
        obtain ⟨g5, g6⟩ := Bool.and_eq_true_iff.mp g3
        have hn := pn_nlt g5
        have hn2 := Nat.le_of_ble_eq_true g6
        have hlink := pn_cl_ok hcl
        rw [g1] at hlink
        dsimp only [cond] at hlink
        rw [← hsz] at k
        refine W.anew hx hb hown (hts _ (hG _ hlink)) (va_AO.use hAO) rfl hdg rfl hn (by omega) hc hs fun cA kA comp f1 f2 f3 f4 => ?_
        generalize hH1 : H.push ({ cls := cA, slots := Array.replicate n.toNatClampNeg .null, vm := .none } : Cell) = H1
        have z1 : H1.size = H.size + 1 := by rw [← hH1, Array.size_push]
        have e1 : H1[H.size]? = some (arrV cA n.toNatClampNeg (fun _ => .null)) := by rw [← hH1, Array.getElem?_push_size, ← arrV_new]
        have o1 : ∀ q : Nat, q < H.size → H1[q]? = H[q]? := fun q hq => by rw [← hH1, Array.getElem?_push, if_neg (Nat.ne_of_lt hq)]
        have hcA : cA = cy 5 := by
          obtain ⟨_, _, _, _, _, q4⟩ := (hK.2 5 (cy 5, .object "QuietChecker$Kind") rfl).2
          exact Option.some.inj (f1.symm.trans q4)
        subst hcA
        obtain ⟨r1, r2, r3⟩ := pn_grown (sh := (5, n.toNatClampNeg)) hP hD hS hA hsz z1 o1 (by
          show H1[rho sw.length]? = some (vp_cell (cy 5) (n.toNatClampNeg, Sum.inr (Sum.inr (Sum.inr (Sum.inr (fun j => (va_up h.2.2 sw.length (fun _ => none) sw.length j).map rho))))))
          rw [va_up_self, vp_cell_q, ← hsz]
          exact e1)
        exact k H1 r1 r2 r3 z1
      · cases hr
    · cases hr
  · cases hr
theorem pn_put_snd (hx : p.tables.exec = Jvm.exec) (hb : c.code = cc) (hts : ∀ w ∈ Ts, w.before args s = true) (hG : ∀ w ∈ pm_G, w ∈ Ts) (hown : s.vm.findClass (pm_on ow) = some m.cls) (hin : meth.name = "<init>") (hK : va_K D pm_cl (pm_tys cy) s) (hP : va_P D pm_cl (pm_W cy rho sw h) H) (hD : va_D A (pm_W cy rho sw h)) (hS : va_S A s.heap H locs)
    {i : Instr} (hdg : decode cc pc = .ok (i, pm_ln i)) (hr : pn_put i sw ow h S = some (h', S'))
    (k : ∀ (H1 : Heap) (locs1 : List Loc), va_P D pm_cl (pm_W cy rho sw h') H1 → va_D A (pm_W cy rho sw h') → va_S A s.heap H1 locs1 → W p l e R s m args below meth c H1 locs1 cells slots Q (F0 m (pc + pm_ln i) ls (pm_cS rho S'))) : W p l e R s m args below meth c H locs cells slots Q (F0 m pc ls (pm_cS rho S)) := by
  unfold pn_put at hr
  split at hr
  · split at hr
    · rename_i idx _ r a S1
      split at hr
      · rename_i ci kk hgf
        obtain ⟨hci, hkk, hlink⟩ := pm_gf_ok hgf
        obtain ⟨ho, hr⟩ := pm_bifR hr
        obtain ⟨ho1, ho2⟩ := Bool.and_eq_true_iff.mp ho
        obtain ⟨ho3, ho4⟩ := Bool.and_eq_true_iff.mp ho2
        obtain ⟨hal, hsh⟩ := pm_isO_t ho1
        have key : ∀ ty, (pm_ft ci)[kk]? = some ty → pm_cat ty = 2 → narrow ty (.ref (rho r)) = .ref (rho r) → fits ty (.ref (rho r)) = true → (pm_setR h a kk (some r), S1) = (h', S') → W p l e R s m args below meth c H locs cells slots Q (F0 m pc ls (pm_cS rho (.ref r :: .ref a :: S1))) := by
          intro ty hty hcat hnw hft he
          cases he
          obtain ⟨f1, f2⟩ := pm_ft_at hci hty
          refine va_putF (ci := ci) (ty := ty) (v := .ref (rho r)) hx hb hts (fun w hw => hG w (pm_uw hci w hw)) (pm_clY ci) (pm_cl_ty hci) (pm_cl_nm hci) hown hK hP hD hS a ((pm_W_at hal).trans (by rw [pm_E_O hsh])) (pm_cl_at hci) kk hkk (hts _ (hG _ hlink)) (fun _ z => z) ho3 hin (of_decide_eq_true ho4) ((pm_cl_ty hci kk f1).trans (by rw [f2])) hnw hft (by rw [pm_fs_len]; exact (List.getElem?_eq_some_iff.mp hty).1) hdg (fun H1 locs1 hP1 hD1 hS1 => ?_)
          have hfv : pm_fv rho (pm_setR h a kk (some r)) a kk ty = .ref (rho r) := by
            unfold pm_fv
            rw [hcat]
            show va_rf ((va_up h.2.2 a (va_up (h.2.2 a) kk (some r)) a kk).map rho) = _
            rw [va_up_self, va_up_self]
            rfl
          have hW : (pm_W cy rho sw h).set a (rho a, .inr (ci, (pm_fs rho h a ci).set kk (.ref (rho r)))) = pm_W cy rho sw (pm_setR h a kk (some r)) := pm_W_set (pm_but_R _ _ _ _) hal (by rw [pm_E_O hsh, pm_fs_set hty hfv (pm_set_oR _ _ _ _)])
          rw [hW] at hP1 hD1
          exact k H1 locs1 hP1 hD1 hS1
        split at hr
        · rename_i nm hty
          exact key _ hty rfl rfl rfl (Option.some.inj hr)
        · rename_i nm hty
          exact key _ hty rfl rfl rfl (Option.some.inj hr)
        · cases hr
      · cases hr
    · cases hr
  · cases hr
/-- what the count of new cells says of the heap's size -/
theorem pn_sizes {g : JFrame} (k : H.size ≤ s.heap.size + cells → W p l e R s m args below meth c H locs cells slots Q g) : W p l e R s m args below meth c H locs cells slots Q g := fun T hT X => k (by rw [← hT]; exact X.same.2.2.1) T hT X
theorem pn_callk {A0 A1 : Nat → Prop} {H0 : Heap} {free : Addr → Prop} {rest st0 : List Value} {mc ms : Nat} {Qa : State → Outcome → State → Prop} {B : State → Prop} {v0 : Option Value} (hr : va_Run p l e R s m args below meth c H locs cells slots mc ms (F0 m pc ls st0) rest Qa free) (hQ : ∀ (st : State) (v : Option Value) (t : State), Qa st (.returned v) t → v = v0 ∧ B t ∧ va_F A1 st t) (hS : va_S A0 H0 H locs) (hA : ∀ q, q < H.size → A1 q → A0 q) (hf : ∀ q, free q → A0 q)
    (kk : ∀ (t : State) (locs1 : List Loc), B t → va_S A0 H0 t.heap locs1 → H.size ≤ t.heap.size → (∀ q : Nat, q < H.size → ¬ A1 q → t.heap[q]? = H[q]?) → s.vm.Alike t.vm → W p l e R s m args below meth c t.heap locs1 (cells + mc) (slots + ms) Q (F0 m (pc + 3) ls (v0.toList ++ rest))) : W p l e R s m args below meth c H locs cells slots Q (F0 m pc ls st0) := by
  intro T hT X
  obtain ⟨v, st₀, t, T', L, h0, X', hL, e1, e2, hq, st⟩ := hr T hT X
  obtain ⟨rfl, hb, hz, hk⟩ := hQ st₀ v t hq
  rw [h0] at hz hk
  obtain ⟨t2, a1, b1⟩ := kk t (locs ++ L) hb
    ⟨Nat.le_trans hS.1 hz, fun q h1 h2 => by rw [hk q (Nat.lt_of_lt_of_le h1 hS.1) (fun z => h2 (hA q (Nat.lt_of_lt_of_le h1 hS.1) z))]; exact hS.2.1 q h1 h2, fun q hq => by
      rcases List.mem_append.mp hq with h | h
      · exact hS.2.2 q h
      · exact hf _ (hL q h)⟩ hz hk (by rw [← e2]; exact X'.warmed.alike) T' e1 X'
  exact ⟨t2, st t2 a1, b1⟩
end PN2
