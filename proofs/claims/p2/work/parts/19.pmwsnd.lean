section PM5
variable {p : Program} {l : Launch} {e : Env} {R : Room} {s : State} {m : MethodId} {args : Array Value} {below : List Frame} {meth : Method} {c : Code} {H : Heap} {locs : List Loc} {cells slots : Nat} {Q : State → Prop} {cc : ByteArray} {pc : Nat} {ls : Array Slot} {rho : Nat → Nat} {S S' : List Value} {D : va_G} {cy : Nat → ClassId} {sw : List (Nat × Nat)} {h h' : pm_H} {A : Nat → Prop} {Ts : List Cond} {ow : Nat}
/-- what a put gives: the heaps agree elsewhere, the field holds the value, the value fits -/
theorem pm_put_t {a k : Nat} {ty : FieldType} {v : Value} (hp : pm_put h a k ty v = some h') : pm_but a h h' ∧ pm_fv rho h' a k ty = pm_cv rho v ∧ (∀ j, j ≠ k → h'.1 a j = h.1 a j ∧ h'.2.1 a j = h.2.1 a j ∧ h'.2.2 a j = h.2.2 a j) ∧ narrow ty (pm_cv rho v) = pm_cv rho v ∧ fits ty (pm_cv rho v) = true := by
  unfold pm_put at hp
  split at hp
  · split at hp
    · cases hp
      refine ⟨pm_but_I _ _ _ _, ?_, pm_set_oI _ _ _ _, rfl, rfl⟩
      show Value.int (va_up h.1 a (va_up (h.1 a) k _) a k) = _
      rw [va_up_self, va_up_self]; rfl
    · cases hp
  · split at hp
    · split at hp
      · rename_i x hx01
        cases hp
        refine ⟨pm_but_I _ _ _ _, ?_, pm_set_oI _ _ _ _, ?_, ?_⟩
        · show Value.int (va_up h.1 a (va_up (h.1 a) k _) a k) = _
          rw [va_up_self, va_up_self]; rfl
        · show narrow .boolean (.int x) = .int x
          rcases hx01 with rfl | rfl <;> decide
        · show fits .boolean (.int x) = true
          rcases hx01 with rfl | rfl <;> decide
      · cases hp
    · cases hp
  · split at hp
    · cases hp
      refine ⟨pm_but_L _ _ _ _, ?_, pm_set_oL _ _ _ _, rfl, rfl⟩
      show Value.long (va_up h.2.1 a (va_up (h.2.1 a) k _) a k) = _
      rw [va_up_self, va_up_self]; rfl
    · cases hp
  · split at hp
    · cases hp
      refine ⟨pm_but_R _ _ _ _, ?_, pm_set_oR _ _ _ _, rfl, rfl⟩
      show va_rf ((va_up h.2.2 a (va_up (h.2.2 a) k _) a k).map rho) = _
      rw [va_up_self, va_up_self]; rfl
    · cases hp
  · cases hp
/-- an object of a class stands there as that class wants it (the elements of an array of references) -/
theorem pm_any {t : Nat} {E : String} (hO : va_O E t A s s.heap) (hS : va_S A s.heap H locs) : va_Any E s H t := by
  obtain ⟨cell, h1, h2, h3, h4⟩ := hO.kept hS.2.1
  refine ⟨cell, h1, h2, ?_, fun comp hc => ?_⟩
  · obtain ⟨kC, hkC, -⟩ := Vm.findClass_spec h3
    exact ⟨kC, hkC⟩
  · have : comp = cell.cls := Option.some.inj (hc.symm.trans h3)
    subst this
    exact va_asg _ _
set_option maxRecDepth 100000 in
theorem pm_kob_all : (List.range 39).all (fun k => decide ((1000 + k, "QuietChecker$Kind") ∈ pm_kob)) = true := by decide +kernel
theorem pm_kob_kind {x : Nat} (h1 : 1000 ≤ x) (h2 : x < 1039) : (x, "QuietChecker$Kind") ∈ pm_kob := by
  have h3 := List.all_eq_true.mp pm_kob_all (x - 1000) (List.mem_range.mpr (by omega))
  rw [show 1000 + (x - 1000) = x by omega] at h3
  exact of_decide_eq_true h3
set_option maxRecDepth 100000 in
theorem pm_kob_all2 : (List.range 39).all (fun k => decide ((3000 + k, "java/lang/String") ∈ pm_kob)) = true := by decide +kernel
theorem pm_kob_str {x : Nat} (h1 : 3000 ≤ x) (h2 : x < 3039) : (x, "java/lang/String") ∈ pm_kob := by
  have h3 := List.all_eq_true.mp pm_kob_all2 (x - 3000) (List.mem_range.mpr (by omega))
  have h4 := of_decide_eq_true h3
  rwa [show 3000 + (x - 3000) = x by omega] at h4
theorem pm_write_snd (hx : p.tables.exec = Jvm.exec) (hb : c.code = cc) (hts : ∀ w ∈ Ts, w.before args s = true) (hG : ∀ w ∈ pm_G, w ∈ Ts) (hown : s.vm.findClass (pm_on ow) = some m.cls) (hK : va_K D pm_cl (pm_tys cy) s) (hP : va_P D pm_cl (pm_W cy rho sw h) H) (hD : va_D A (pm_W cy rho sw h)) (hS : va_S A s.heap H locs) (hKS : pm_KS rho A s s.heap)
    {i : Instr} (hdg : decode cc pc = .ok (i, pm_ln i)) (hr : pm_write i sw ow h S = some (h', S'))
    (k : ∀ (H1 : Heap) (locs1 : List Loc), va_P D pm_cl (pm_W cy rho sw h') H1 → va_D A (pm_W cy rho sw h') → va_S A s.heap H1 locs1 → W p l e R s m args below meth c H1 locs1 cells slots Q (F0 m (pc + pm_ln i) ls (pm_cS rho S'))) : W p l e R s m args below meth c H locs cells slots Q (F0 m pc ls (pm_cS rho S)) := by
  unfold pm_write at hr
  split at hr
  · split at hr
    · rename_i idx _ v a S1
      split at hr
      · rename_i ci kk hgf
        obtain ⟨hci, hkk, hlink⟩ := pm_gf_ok hgf
        cases ho : (pm_isO sw a ci && !((pm_clN ci).2.1 kk).2.2.2) with
        | false => rw [ho] at hr; cases hr
        | true =>
          rw [ho] at hr
          dsimp only [cond] at hr
          obtain ⟨ho1, ho2⟩ := Bool.and_eq_true_iff.mp ho
          split at hr
          · rename_i ty hty
            obtain ⟨h1, hv, he⟩ := Option.map_eq_some_iff.mp hr
            cases he
            obtain ⟨hal, hsh⟩ := pm_isO_t ho1
            obtain ⟨q1, q2, q3, q4, q5⟩ := pm_put_t (rho := rho) hv
            obtain ⟨f1, f2⟩ := pm_ft_at hci hty
            refine va_put (ci := ci) (ty := ty) hx hb hts (fun w hw => hG w (pm_uw hci w hw)) (pm_clY ci) (pm_cl_ty hci) (pm_cl_nm hci) hown hK hP hD hS a ((pm_W_at hal).trans (by rw [pm_E_O hsh])) (pm_cl_at hci) kk hkk (hts _ (hG _ hlink)) (fun _ z => z) (by cases hz : ((pm_clN ci).2.1 kk).2.2.2 with | false => rfl | true => rw [hz] at ho2; cases ho2) ((pm_cl_ty hci kk f1).trans (by rw [f2])) q4 q5 (by rw [pm_fs_len]; exact (List.getElem?_eq_some_iff.mp hty).1) hdg (fun H1 locs1 hP1 hD1 hS1 => ?_)
            have hW : (pm_W cy rho sw h).set a (rho a, .inr (ci, (pm_fs rho h a ci).set kk (pm_cv rho v))) = pm_W cy rho sw h' := pm_W_set q1 hal (by rw [pm_E_O hsh, pm_fs_set hty q2 q3])
            rw [hW] at hP1 hD1
            exact k H1 locs1 hP1 hD1 hS1
          · cases hr
      · cases hr
    · cases hr
  · split at hr
    · rename_i _ x j a S1
      obtain ⟨hg, he⟩ := pm_bif hr
      cases he
      obtain ⟨h1, h2⟩ := Bool.and_eq_true_iff.mp hg
      obtain ⟨h3, h4⟩ := Bool.and_eq_true_iff.mp h1
      have hal := pm_blt h3
      have hat := pm_W_at (cy := cy) (rho := rho) (h := h) hal
      have hset : ∀ en, en = pm_E cy rho (pm_setI h a j.toNatClampNeg x) (pm_sh sw a) a → (pm_W cy rho sw h).set a (rho a, en) = pm_W cy rho sw (pm_setI h a j.toNatClampNeg x) := fun en hen => pm_W_set (pm_but_I _ _ _ _) hal hen
      have hsh := Nat.eq_of_beq_eq_true h4
      generalize pm_sh sw a = sh at *
      obtain ⟨sk, sn⟩ := sh
      dsimp only at hsh
      subst hsh
      refine va_iast hx hb hK hP hD hS a 1 hat rfl (pm_inb_vp h2) hdg (fun H1 locs1 hP1 hD1 hS1 => ?_)
      rw [hset _ (by show _ = Sum.inl (cy 1, sn, Sum.inl (va_up h.1 a _ a)); rw [va_up_self]; rfl)] at hP1 hD1
      exact k H1 locs1 hP1 hD1 hS1
    · cases hr
  · split at hr
    · rename_i _ x j a S1
      obtain ⟨hg, he⟩ := pm_bif hr
      cases he
      obtain ⟨h1, h2⟩ := Bool.and_eq_true_iff.mp hg
      obtain ⟨h3, h4⟩ := Bool.and_eq_true_iff.mp h1
      have hal := pm_blt h3
      have hat := pm_W_at (cy := cy) (rho := rho) (h := h) hal
      have hset : ∀ en, en = pm_E cy rho (pm_setI h a j.toNatClampNeg (vp_nar .char x)) (pm_sh sw a) a → (pm_W cy rho sw h).set a (rho a, en) = pm_W cy rho sw (pm_setI h a j.toNatClampNeg (vp_nar .char x)) := fun en hen => pm_W_set (pm_but_I _ _ _ _) hal hen
      have hsh := Nat.eq_of_beq_eq_true h4
      generalize pm_sh sw a = sh at *
      obtain ⟨sk, sn⟩ := sh
      dsimp only at hsh
      subst hsh
      refine va_cast hx hb hK hP hD hS a 2 hat rfl (pm_inb_vp h2) hdg (fun H1 locs1 hP1 hD1 hS1 => ?_)
      rw [hset _ (by show _ = Sum.inl (cy 2, sn, Sum.inl (va_up h.1 a _ a)); rw [va_up_self]; rfl)] at hP1 hD1
      exact k H1 locs1 hP1 hD1 hS1
    · cases hr
  · split at hr
    · rename_i _ x j a S1
      obtain ⟨hg, he⟩ := pm_bif hr
      cases he
      obtain ⟨h1, h2⟩ := Bool.and_eq_true_iff.mp hg
      obtain ⟨h3, h4⟩ := Bool.and_eq_true_iff.mp h1
      have hal := pm_blt h3
      have hat := pm_W_at (cy := cy) (rho := rho) (h := h) hal
      have hset : ∀ en, en = pm_E cy rho (pm_setI h a j.toNatClampNeg (vp_nar .boolean x)) (pm_sh sw a) a → (pm_W cy rho sw h).set a (rho a, en) = pm_W cy rho sw (pm_setI h a j.toNatClampNeg (vp_nar .boolean x)) := fun en hen => pm_W_set (pm_but_I _ _ _ _) hal hen
      have hsh := Nat.eq_of_beq_eq_true h4
      generalize pm_sh sw a = sh at *
      obtain ⟨sk, sn⟩ := sh
      dsimp only at hsh
      subst hsh
      refine va_zast hx hb hK hP hD hS a 3 hat rfl (pm_inb_vp h2) hdg (fun H1 locs1 hP1 hD1 hS1 => ?_)
      rw [hset _ (by show _ = Sum.inl (cy 3, sn, Sum.inl (va_up h.1 a _ a)); rw [va_up_self]; rfl)] at hP1 hD1
      exact k H1 locs1 hP1 hD1 hS1
    · cases hr
  · split at hr
    · rename_i _ x j a S1
      obtain ⟨hg, he⟩ := pm_bif hr
      cases he
      obtain ⟨h1, h2⟩ := Bool.and_eq_true_iff.mp hg
      obtain ⟨h3, h4⟩ := Bool.and_eq_true_iff.mp h1
      have hal := pm_blt h3
      have hat := pm_W_at (cy := cy) (rho := rho) (h := h) hal
      have hset : ∀ en, en = pm_E cy rho (pm_setL h a j.toNatClampNeg x) (pm_sh sw a) a → (pm_W cy rho sw h).set a (rho a, en) = pm_W cy rho sw (pm_setL h a j.toNatClampNeg x) := fun en hen => pm_W_set (pm_but_L _ _ _ _) hal hen
      have hsh := Nat.eq_of_beq_eq_true h4
      generalize pm_sh sw a = sh at *
      obtain ⟨sk, sn⟩ := sh
      dsimp only at hsh
      subst hsh
      refine va_last hx hb hK hP hD hS a 4 hat rfl (pm_inb_vp h2) hdg (fun H1 locs1 hP1 hD1 hS1 => ?_)
      rw [hset _ (by show _ = Sum.inl (cy 4, sn, Sum.inr (Sum.inl (va_up h.2.1 a _ a))); rw [va_up_self]; rfl)] at hP1 hD1
      exact k H1 locs1 hP1 hD1 hS1
    · cases hr
  · split at hr
    · rename_i _ x j a S1
      obtain ⟨hg, he⟩ := pm_bif hr
      cases he
      obtain ⟨hg1, hg2⟩ := Bool.and_eq_true_iff.mp hg
      obtain ⟨g1, g2⟩ := Bool.and_eq_true_iff.mp hg2
      obtain ⟨h1, h2⟩ := Bool.and_eq_true_iff.mp hg1
      obtain ⟨h3, h4⟩ := Bool.and_eq_true_iff.mp h1
      have hal := pm_blt h3
      have hat := pm_W_at (cy := cy) (rho := rho) (h := h) hal
      have hset : ∀ en, en = pm_E cy rho (pm_setR h a j.toNatClampNeg (some x)) (pm_sh sw a) a → (pm_W cy rho sw h).set a (rho a, en) = pm_W cy rho sw (pm_setR h a j.toNatClampNeg (some x)) := fun en hen => pm_W_set (pm_but_R _ _ _ _) hal hen
      have hsh := Nat.eq_of_beq_eq_true h4
      generalize pm_sh sw a = sh at *
      obtain ⟨sk, sn⟩ := sh
      dsimp only at hsh
      subst hsh
      have hO : va_O "QuietChecker$Kind" (rho x) A s s.heap := hKS.2.1 (x, "QuietChecker$Kind") (pm_kob_kind (Nat.le_of_ble_eq_true g1) (pm_blt g2))
      refine va_astqM hx hb hK hP hD hS a 5 hat rfl (pm_any hO hS) (pm_inb_vp h2) hdg (fun H1 locs1 hP1 hD1 hS1 => ?_)
      rw [hset _ (by
        show _ = Sum.inl (cy 5, sn, Sum.inr (Sum.inr (Sum.inr (Sum.inr (fun j' => (va_up h.2.2 a _ a j').map rho)))))
        rw [va_up_self]
        congr 7
        funext j'
        by_cases hj : j' = j.toNatClampNeg
        · subst hj; rw [va_up_self, va_up_self]; rfl
        · rw [va_up_ne _ _ hj, va_up_ne _ _ hj])] at hP1 hD1
      exact k H1 locs1 hP1 hD1 hS1
    · cases hr
  · cases hr
end PM5
