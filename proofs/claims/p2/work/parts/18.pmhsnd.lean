section PM4
variable {p : Program} {l : Launch} {e : Env} {R : Room} {s : State} {m : MethodId} {args : Array Value} {below : List Frame} {meth : Method} {c : Code} {H : Heap} {locs : List Loc} {cells slots : Nat} {Q : State → Prop} {cc : ByteArray} {pc : Nat} {ls : Array Slot} {rho : Nat → Nat} {S S' : List Value} {D : va_G} {cy : Nat → ClassId} {sw : List (Nat × Nat)} {h h' : pm_H} {A : Nat → Prop} {Ts : List Cond} {ow : Nat}
theorem pm_kst_at {j : Nat} (hj : j < pm_kst.length) : pm_kst.getD j ("", "", "", 0) ∈ pm_kst := by
  rw [List.getD_eq_getElem?_getD, List.getElem?_eq_getElem hj]
  exact List.getElem_mem hj
theorem pm_rd0_snd (hx : p.tables.exec = Jvm.exec) (hb : c.code = cc) (hts : ∀ w ∈ Ts, w.before args s = true) (hG : ∀ w ∈ pm_G, w ∈ Ts) (hown : s.vm.findClass (pm_on ow) = some m.cls) (hK : va_K D pm_cl (pm_tys cy) s) (hP : va_P D pm_cl (pm_W cy rho sw h) H) (hS : va_S A s.heap H locs) (hKS : pm_KS rho A s s.heap)
    {i : Instr} (hdg : decode cc pc = .ok (i, pm_ln i)) (hr : pm_rd0 i sw ow h S = some S')
    (k : W p l e R s m args below meth c H locs cells slots Q (F0 m (pc + pm_ln i) ls (pm_cS rho S'))) : W p l e R s m args below meth c H locs cells slots Q (F0 m pc ls (pm_cS rho S)) := by
  unfold pm_rd0 at hr
  split at hr
  · split at hr
    · rename_i idx _ a S1
      cases ha : Nat.blt a 1000 with
      | true =>
        rw [ha] at hr
        dsimp only [cond] at hr
        split at hr
        · rename_i ci kk hgf
          obtain ⟨hci, hkk, hlink⟩ := pm_gf_ok hgf
          cases ho : pm_isO sw a ci with
          | false => rw [ho] at hr; cases hr
          | true =>
            rw [ho] at hr
            dsimp only [cond] at hr
            split at hr
            · rename_i ty hty
              obtain ⟨v, hv, rfl⟩ := Option.map_eq_some_iff.mp hr
              obtain ⟨hal, hsh⟩ := pm_isO_t ho
              refine va_get (ci := ci) hx hb hts (fun w hw => hG w (pm_uw hci w hw)) hown hK hP a ((pm_W_at hal).trans (by rw [pm_E_O hsh])) (pm_cl_at hci) kk hkk (hts _ (hG _ hlink)) (fun _ z => z) ((pm_fs_at hty).trans (by rw [pm_get_cv hv])) hdg k
            · cases hr
        · cases hr
      | false =>
        rw [ha] at hr
        dsimp only [cond] at hr
        split at hr
        · rename_i j hkf
          obtain ⟨v, hv, rfl⟩ := Option.map_eq_some_iff.mp hr
          exact vk_getf hx hb (hKS.2.2.1 _ (pm_kv_mem hv)) hS hown (hts _ (hG _ (pm_kf_ok hkf))) (fun _ z => z) hdg k
        · cases hr
    · cases hr
  · obtain ⟨j, hj, rfl⟩ := Option.map_eq_some_iff.mp hr
    obtain ⟨hjl, hlink⟩ := pm_gs_ok hj
    exact va_gets hx hb (hKS.1 _ (pm_kst_at hjl)) hS hown (hts _ (hG _ hlink)) (fun _ z => z) hdg k
  · obtain ⟨v, hv, rfl⟩ := Option.map_eq_some_iff.mp hr
    exact lv_ldc2 hx hb hown (hts _ (hG _ (pm_kl_ok hv))) hdg k
  · split at hr
    · rename_i _ a S1
      obtain ⟨hg, rfl⟩ := pm_bif hr
      obtain ⟨h1, h2⟩ := Bool.and_eq_true_iff.mp hg
      have hal := pm_blt h1
      have hsh := pm_blt h2
      have hat := pm_W_at (cy := cy) (rho := rho) (h := h) hal
      generalize pm_sh sw a = sh at *
      obtain ⟨sk, sn⟩ := sh
      dsimp only at hsh
      match sk, hsh with
      | 0, _ => exact va_alen hx hb hK hP a 0 hat rfl rfl hdg k
      | 1, _ => exact va_alen hx hb hK hP a 1 hat rfl rfl hdg k
      | 2, _ => exact va_alen hx hb hK hP a 2 hat rfl rfl hdg k
      | 3, _ => exact va_alen hx hb hK hP a 3 hat rfl rfl hdg k
      | 4, _ => exact va_alen hx hb hK hP a 4 hat rfl rfl hdg k
      | 5, _ => exact va_alen hx hb hK hP a 5 hat rfl rfl hdg k
    · cases hr
  · split at hr
    · rename_i _ j a S1
      obtain ⟨hg, rfl⟩ := pm_bif hr
      obtain ⟨h1, h2⟩ := Bool.and_eq_true_iff.mp hg
      obtain ⟨h3, h4⟩ := Bool.and_eq_true_iff.mp h1
      have hat := pm_W_at (cy := cy) (rho := rho) (h := h) (pm_blt h3)
      have hsh := Nat.eq_of_beq_eq_true h4
      generalize pm_sh sw a = sh at *
      obtain ⟨sk, sn⟩ := sh
      dsimp only at hsh
      subst hsh
      exact va_iald hx hb hK hP a 1 hat rfl (pm_inb_vp h2) hdg k
    · cases hr
  · split at hr
    · rename_i _ j a S1
      obtain ⟨hg, rfl⟩ := pm_bif hr
      obtain ⟨h1, h2⟩ := Bool.and_eq_true_iff.mp hg
      obtain ⟨h3, h4⟩ := Bool.and_eq_true_iff.mp h1
      have hat := pm_W_at (cy := cy) (rho := rho) (h := h) (pm_blt h3)
      have hsh := Nat.eq_of_beq_eq_true h4
      generalize pm_sh sw a = sh at *
      obtain ⟨sk, sn⟩ := sh
      dsimp only at hsh
      subst hsh
      exact va_cald hx hb hK hP a 2 hat rfl (pm_inb_vp h2) hdg k
    · cases hr
  · split at hr
    · rename_i _ j a S1
      obtain ⟨hg, rfl⟩ := pm_bif hr
      obtain ⟨h1, h2⟩ := Bool.and_eq_true_iff.mp hg
      obtain ⟨h3, h4⟩ := Bool.and_eq_true_iff.mp h1
      have hat := pm_W_at (cy := cy) (rho := rho) (h := h) (pm_blt h3)
      have hsh := Nat.eq_of_beq_eq_true h4
      generalize pm_sh sw a = sh at *
      obtain ⟨sk, sn⟩ := sh
      dsimp only at hsh
      subst hsh
      exact va_zald hx hb hK hP a 3 hat rfl (pm_inb_vp h2) hdg k
    · cases hr
  · split at hr
    · rename_i _ j a S1
      obtain ⟨hg, rfl⟩ := pm_bif hr
      obtain ⟨h1, h2⟩ := Bool.and_eq_true_iff.mp hg
      obtain ⟨h3, h4⟩ := Bool.and_eq_true_iff.mp h1
      have hat := pm_W_at (cy := cy) (rho := rho) (h := h) (pm_blt h3)
      have hsh := Nat.eq_of_beq_eq_true h4
      generalize pm_sh sw a = sh at *
      obtain ⟨sk, sn⟩ := sh
      dsimp only at hsh
      subst hsh
      exact va_lald hx hb hK hP a 4 hat rfl (pm_inb_vp h2) hdg k
    · cases hr
  · split at hr
    · rename_i _ j a S1
      cases hg : (pm_isA sw a 5 && pm_inb j (pm_sh sw a).2) with
      | false => rw [hg] at hr; cases hr
      | true =>
        rw [hg] at hr
        obtain ⟨r, hr1, rfl⟩ := Option.map_eq_some_iff.mp hr
        obtain ⟨h1, h2⟩ := Bool.and_eq_true_iff.mp hg
        obtain ⟨h3, h4⟩ := Bool.and_eq_true_iff.mp h1
        have hat := pm_W_at (cy := cy) (rho := rho) (h := h) (pm_blt h3)
        have hsh := Nat.eq_of_beq_eq_true h4
        generalize pm_sh sw a = sh at *
        obtain ⟨sk, sn⟩ := sh
        dsimp only at hsh
        subst hsh
        refine va_aldq hx hb hK hP a 5 hat rfl (pm_inb_vp h2) hdg ?_
        rw [hr1]
        exact k
    · cases hr
  · cases hr
set_option maxRecDepth 100000 in
theorem pm_cs_all : pm_cso.all (fun q => pm_inG q.2.2 (Cond.fieldLink (pm_on q.1) q.2.1 "java/lang/String" "COMPACT_STRINGS" "Z")) = true := by decide +kernel
theorem pm_isc_ok {ow idx : Nat} (h : pm_isc ow idx = true) : Cond.fieldLink (pm_on ow) idx "java/lang/String" "COMPACT_STRINGS" "Z" ∈ pm_G := by
  obtain ⟨q, hq, h1⟩ := List.any_eq_true.mp h
  obtain ⟨h2, h3⟩ := Bool.and_eq_true_iff.mp h1
  have h2 := Nat.eq_of_beq_eq_true h2
  have h3 := Nat.eq_of_beq_eq_true h3
  subst h2; subst h3
  exact pm_mem (List.all_eq_true.mp pm_cs_all q hq)
theorem pm_cst_snd (hx : p.tables.exec = Jvm.exec) (hb : c.code = cc) (hts : ∀ w ∈ Ts, w.before args s = true) (hG : ∀ w ∈ pm_G, w ∈ Ts) (hown : s.vm.findClass (pm_on ow) = some m.cls) (hS : va_S A s.heap H locs) (hKS : pm_KS rho A s s.heap)
    {i : Instr} (hdg : decode cc pc = .ok (i, pm_ln i)) (hr : pm_cst i ow S = some S')
    (k : W p l e R s m args below meth c H locs cells slots Q (F0 m (pc + pm_ln i) ls (pm_cS rho S'))) : W p l e R s m args below meth c H locs cells slots Q (F0 m pc ls (pm_cS rho S)) := by
  unfold pm_cst at hr
  split at hr
  · rename_i idx
    cases hn : pm_isn ow idx with
    | true =>
      rw [hn] at hr
      cases hr
      obtain ⟨h2, h3⟩ := Bool.and_eq_true_iff.mp hn
      have h2 := Nat.eq_of_beq_eq_true h2
      have h3 := Nat.eq_of_beq_eq_true h3
      subst h2; subst h3
      exact va_getsN hx hb (hKS.1 ("QuietChecker$Kind", "ALL", "[LQuietChecker$Kind;", 2000) (pm_kst_at (j := 39) (by decide))) hS hown (va_Nw.use rfl hKS.2.2.2.2.2.2.2) (fun _ z => z) hdg k
    | false =>
      rw [hn] at hr
      obtain ⟨hg, rfl⟩ := pm_bif hr
      exact va_gets hx hb hKS.2.2.2.2.2.1 hS hown (hts _ (hG _ (pm_isc_ok hg))) (fun _ z => z) hdg k
  · split at hr
    · rename_i _ a S1
      cases ha : Nat.beq a 2000 with
      | true =>
        rw [ha] at hr
        cases hr
        have ha := Nat.eq_of_beq_eq_true ha
        subst ha
        exact va_tlen hx hb hKS.2.2.2.2.1 hS rfl hdg k
      | false =>
        rw [ha] at hr
        obtain ⟨b, hb2, rfl⟩ := Option.map_eq_some_iff.mp hr
        exact va_tlen hx hb (hKS.2.2.2.1 _ (pm_kbf_mem hb2)) hS rfl hdg k
    · cases hr
  · split at hr
    · rename_i _ j a S1
      obtain ⟨hg, rfl⟩ := pm_bif hr
      obtain ⟨h1, h2⟩ := Bool.and_eq_true_iff.mp hg
      have h1 := Nat.eq_of_beq_eq_true h1
      subst h1
      exact vb_tq hx hb hKS.2.2.2.2.1 hS (pm_inb_vp h2) rfl hdg k
    · cases hr
  · cases hr
theorem pm_read_snd (hx : p.tables.exec = Jvm.exec) (hb : c.code = cc) (hts : ∀ w ∈ Ts, w.before args s = true) (hG : ∀ w ∈ pm_G, w ∈ Ts) (hown : s.vm.findClass (pm_on ow) = some m.cls) (hK : va_K D pm_cl (pm_tys cy) s) (hP : va_P D pm_cl (pm_W cy rho sw h) H) (hS : va_S A s.heap H locs) (hKS : pm_KS rho A s s.heap)
    {i : Instr} (hdg : decode cc pc = .ok (i, pm_ln i)) (hr : pm_read i sw ow h S = some S')
    (k : W p l e R s m args below meth c H locs cells slots Q (F0 m (pc + pm_ln i) ls (pm_cS rho S'))) : W p l e R s m args below meth c H locs cells slots Q (F0 m pc ls (pm_cS rho S)) := by
  unfold pm_read at hr
  cases h0 : pm_rd0 i sw ow h S with
  | some S1 =>
    rw [h0] at hr
    cases hr
    exact pm_rd0_snd hx hb hts hG hown hK hP hS hKS hdg h0 k
  | none =>
    rw [h0] at hr
    exact pm_cst_snd hx hb hts hG hown hS hKS hdg hr k
end PM4
