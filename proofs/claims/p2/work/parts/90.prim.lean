/-! StringLatin1.charAt on a spelling's bytes, by a contract of its own -/
def ps_y1 : MethodName := ⟨"jdk/internal/util/Preconditions", "checkIndex", "(IILjava/util/function/BiFunction;)I"⟩
def ps_y2 : MethodName := ⟨"java/lang/String", "checkIndex", "(II)V"⟩
def ps_w1 : List Cond := Cond.code ps_y1 prog_30_method_11_code 3 (some .int) :: pm_G
def ps_w2 : List Cond := Cond.code ps_y2 prog_22_method_155_code 2 none :: pm_G
def ps_l : List Cond := [Cond.code ps_y1 prog_30_method_11_code 3 (some .int), Cond.code ps_y2 prog_22_method_155_code 2 none, Cond.methodLink "java/lang/StringLatin1" 9 ps_y2, Cond.static ps_y2, Cond.initialized "java/lang/String", Cond.fieldLink "java/lang/String" 1053 "jdk/internal/util/Preconditions" "SIOOBE_FORMATTER" "Ljava/util/function/BiFunction;", Cond.methodLink "java/lang/String" 1059 ps_y1, Cond.static ps_y1, Cond.initialized "jdk/internal/util/Preconditions"]
set_option maxRecDepth 100000 in
theorem ps_ok : ps_l.all (fun w => decide (w ∈ lw_tbl) && goodWord w) = true := by decide +kernel
theorem ps_G {w : Cond} (k : Nat) (h : ps_l[k]? = some w) : w ∈ pm_G := by
  obtain ⟨h1, h2⟩ := Bool.and_eq_true_iff.mp (List.all_eq_true.mp ps_ok w (List.mem_of_getElem? h))
  exact List.mem_filter.mpr ⟨of_decide_eq_true h1, h2⟩
theorem ps_good {Ts : List Cond} {w : Cond} (hG : ∀ w ∈ pm_G, w ∈ Ts) (hw : w ∈ pm_G) : GoodIn Ts (w :: pm_G) := by
  intro z hz
  have hz2 : z ∈ pm_G := by
    rcases List.mem_cons.mp hz with rfl | h1
    · exact hw
    · exact h1
  exact ⟨hG z hz2, pm_good_G z hz2⟩
theorem pm_dec {mi pc : Nat} {i : Instr} (h : pm_fd (pm_code mi) pc = some i) (hn : pm_ln i ≠ 0) : decode (pm_by mi) pc = .ok (i, pm_ln i) := by
  obtain ⟨len, hd, hl⟩ := pm_decode h
  rcases hl with h1 | h1
  · exact absurd h1 hn
  · rw [hd, h1]
/-- the cells stay -/
def ps_N (_ : Nat) : Prop := False
section PS1
variable {l : Launch} {i n : Int32} {H0 : Heap}
set_option maxRecDepth 100000 in
theorem ps_met1 {v : Value} (hc : v.category = 1) (h0 : ¬ i < 0) (h1 : i < n) : Met l ps_y1 ps_w1 (pm_rm 0) (va_Pc [.int i, .int n, v] (fun U => U.heap = H0)) (fun _ s o t => o = .returned (some (.int i)) ∧ t.heap = H0 ∧ va_F ps_N s t) 0 0 ps_N := by
  refine pm_ofW (cc := prog_30_method_11_code) (maxL := 3) (ret := some .int) (by decide) rfl ?_
  intro p e s m args below meth c s₁ B hml hv
  obtain ⟨rfl, rfl⟩ := hv
  have hlen : (lg_sl [.int i, .int n, v]).length ≤ 3 := by
    cases v <;> first | exact Nat.le_refl _ | cases hc
  have hl := lv_entry [.int i, .int n, v] (n := 3) hlen
  rw [lg_entry_eq]
  generalize (lg_sl [.int i, .int n, v] ++ List.replicate (3 - (lg_sl [.int i, .int n, v]).length) Slot.unset).toArray = ls at hl ⊢
  have g0 : ls[0]? = some (.val (.int i)) := lv_at hl 0 rfl
  have g1 : ls[1]? = some (.val (.int n)) := lv_at hl 1 rfl
  refine lv_iload_n (k := 0) B.exec B.bytes (by rfl) rfl g0 ?_
  refine lv_if_lt (tgt := 9) B.exec B.bytes (off := 8) (by rfl) (by rfl) (fun z => absurd z h0) (fun _ => ?_)
  refine lv_iload_n (k := 0) B.exec B.bytes (by rfl) rfl g0 ?_
  refine lv_iload_n (k := 1) B.exec B.bytes (by rfl) rfl g1 ?_
  refine lv_icmp_lt (tgt := 16) B.exec B.bytes (off := 10) (by rfl) (by rfl) (fun _ => ?_) (fun z => absurd h1 z)
  refine lv_iload_n (k := 0) B.exec B.bytes (by rfl) rfl g0 ?_
  exact W.iret B.exec B.bytes B.returns (fun t ht hW => ⟨rfl, ht, Nat.le_of_eq (by rw [ht]), fun q _ _ => by rw [ht]⟩) (fun q hq => by cases hq) (by rfl) B.notSynchronized
set_option maxRecDepth 100000 in
theorem ps_met2 (h0 : ¬ i < 0) (h1 : i < n) : Met l ps_y2 ps_w2 (pm_rm 2) (va_Pc [.int i, .int n] (fun U => U.heap = H0 ∧ va_Zq "jdk/internal/util/Preconditions" "SIOOBE_FORMATTER" "Ljava/util/function/BiFunction;" ps_N U U.heap)) (fun _ s o t => o = .returned none ∧ t.heap = H0 ∧ va_F ps_N s t) 0 0 ps_N := by
  refine pm_ofW (cc := prog_22_method_155_code) (maxL := 2) (ret := none) (by decide) rfl ?_
  intro p e s m args below meth c s₁ B hml hv
  obtain ⟨rfl, rfl, hZ⟩ := hv
  have hown : s.vm.findClass "java/lang/String" = some m.cls := findClass_of_methodNamed B.named
  have hts := atoms_spec (ws := ps_w2) B.pre
  have hG : ∀ w ∈ pm_G, w ∈ ps_w2 := fun w hw => List.mem_cons_of_mem _ hw
  have hl := lv_entry [.int i, .int n] (n := 2) (Nat.le_refl _)
  rw [lg_entry_eq]
  generalize (lg_sl [.int i, .int n] ++ List.replicate (2 - (lg_sl [.int i, .int n]).length) Slot.unset).toArray = ls at hl ⊢
  have g0 : ls[0]? = some (.val (.int i)) := lv_at hl 0 rfl
  have g1 : ls[1]? = some (.val (.int n)) := lv_at hl 1 rfl
  have hS : va_S ps_N s.heap s.heap [] := va_S.rf
  refine lv_iload_n (k := 0) B.exec B.bytes (by rfl) rfl g0 ?_
  refine lv_iload_n (k := 1) B.exec B.bytes (by rfl) rfl g1 ?_
  have key : ∀ v : Value, v.category = 1 → va_Z "jdk/internal/util/Preconditions" "SIOOBE_FORMATTER" "Ljava/util/function/BiFunction;" v ps_N s s.heap → W p l e (headSpec ps_w2 (pm_rm 2)).room s m [.int i, .int n].toArray below meth c s.heap [] 0 0 (MQ below (fun _ s o t => o = .returned none ∧ t.heap = s.heap ∧ va_F ps_N s t) [.int i, .int n].toArray s 0 0 ps_N) (F0 m 2 ls [.int n, .int i]) := by
    intro v hc hZ
    refine va_gets B.exec B.bytes hZ hS hown (hts _ (hG _ (ps_G 5 rfl))) (fun _ z => z) (by rfl) ?_
    have cb : CallB (pm_rm 2) s [.int i, .int n].toArray "java/lang/String" 1059 ps_y1 prog_30_method_11_code 3 (some .int) ps_w1 (pm_rm 0) 0 0 3 := callB_of 3 hts (ps_good hG (ps_G 0 rfl)) rfl rfl rfl (hts _ (hG _ (ps_G 8 rfl))) (hts _ (hG _ (ps_G 6 rfl))) ⟨by decide, by decide, by decide⟩ ⟨by show 0 + 1 ≤ 2; omega, by show 8 + (3 + 11) + 0 * 40 ≤ 2 * 40; omega⟩
    refine pm_callk (B := fun t => t.heap = s.heap) (A1 := ps_N) (v0 := some (.int i)) (va_runS (As := [.int i, .int n, v]) (rest := []) (g := F0 m 5 ls [v, .int n, .int i]) ⟨B.exec, B.bytes, hml, hown, hts⟩ (ps_met1 (H0 := s.heap) hc h0 h1) ⟨cb, hts _ (hG _ (ps_G 7 rfl))⟩ ⟨fun a U g mk q => q, fun U hU hW => ⟨rfl, hU⟩⟩ rfl rfl hl.1 rfl (lv_room (by decide)) (by rfl) ⟨Nat.le_refl _, Nat.le_refl _⟩) ?_ hS (fun _ _ z => z.elim) (fun _ z => z.elim) ?_
    · intro st w t hq
      exact ⟨Outcome.returned.inj hq.1, hq.2.1, hq.2.2⟩
    · intro t locs1 hBt hS1
      refine lv_pop B.exec B.bytes (va := .int i) (by rfl) rfl ?_
      exact W.vret B.exec B.bytes B.returns (fun t' ht hW => ⟨rfl, by rw [ht, hBt], hS1.F ht⟩) hS1.2.2 (by rfl) B.notSynchronized
  rcases hZ with hZ | ⟨t, hZ⟩
  · exact key .null rfl hZ
  · exact key (.ref t) rfl hZ
end PS1
set_option maxRecDepth 100000 in
theorem ps_by : pm_kba.all (fun q => (List.range q.2.length).all (fun j => decide ((((q.2.getD j 0) &&& (Int16.ofInt 255).toInt32).toUInt32 % 65536).toInt32 = q.2.getD j 0) && decide (vp_nar .char (q.2.getD j 0) = q.2.getD j 0))) = true := by decide +kernel
set_option maxRecDepth 100000 in
theorem ps_len : pm_kba.all (fun q => Nat.ble q.2.length 6) = true := by decide +kernel
set_option maxHeartbeats 1000000 in
theorem ps_prim {l : Launch} {rho : Nat → Nat} {D : va_G} {cy : Nat → ClassId} {sw : List (Nat × Nat)} : ∀ (mj : Nat) (as : List Value) (v : Value), pm_prim mj as = some v → ∀ (h : pm_H) (sz : Nat), Met l (pm_nm mj) (pm_ws mj) (pm_rm 4) (va_Pc (pm_cS rho as) (pm_B rho D cy sw h sz)) (pm_Q rho D cy sw h sz (some v) h) 0 0 (va_A (pm_W cy rho sw h) sz) := by
  intro mj as v hp h sz
  unfold pm_prim at hp
  cases hb9 : Nat.beq mj 167 with
  | false => rw [hb9] at hp; cases hp
  | true =>
    rw [hb9] at hp
    have hmj := Nat.eq_of_beq_eq_true hb9
    subst hmj
    dsimp only [cond] at hp
    split at hp
    · rename_i a j
      split at hp
      · rename_i bl hk
        obtain ⟨hin, rfl⟩ := pm_bif hp
        have hmem : (a, bl) ∈ pm_kba := pm_kbf_mem hk
        obtain ⟨i1, i2⟩ := Bool.and_eq_true_iff.mp hin
        have i2 := pm_blt i2
        have hj0 : ¬ j < 0 := by
          intro z
          rw [decide_eq_true z] at i1
          cases i1
        have hb6 : bl.length ≤ 6 := Nat.le_of_ble_eq_true (List.all_eq_true.mp ps_len _ hmem)
        obtain ⟨y1, y2⟩ := Bool.and_eq_true_iff.mp (List.all_eq_true.mp (List.all_eq_true.mp ps_by _ hmem) j.toNatClampNeg (List.mem_range.mpr i2))
        have y1 := of_decide_eq_true y1
        have y2 := of_decide_eq_true y2
        dsimp only at y1 y2
        have hjn : j < Int32.ofNat bl.length := by
          rw [Int32.lt_iff_toInt_lt]
          have e1 : (Int32.ofNat bl.length).toInt = (bl.length : Int) := nI_ti (by omega)
          have e2 : j.toNatClampNeg = j.toInt.toNat := rfl
          rw [e1]
          omega
        refine pm_ofW (cc := pm_by 167) (maxL := pm_mx 167) (ret := pm_rt 167) (by decide) rfl ?_
        intro p e s m args below meth c s₁ B hml hv
        obtain ⟨rfl, rfl, hP, hK, hD0, hKS⟩ := hv
        have hown : s.vm.findClass "java/lang/StringLatin1" = some m.cls := findClass_of_methodNamed B.named
        have hts := atoms_spec (ws := pm_ws 167) B.pre
        have hG : ∀ w ∈ pm_G, w ∈ pm_ws 167 := fun w hw => List.mem_cons_of_mem _ hw
        have hT := hKS.2.2.2.1 _ hmem
        have hl := lv_entry [.ref (rho a), .int j] (n := 2) (Nat.le_refl _)
        show W p l e (headSpec (pm_ws 167) (pm_rm 4)).room s m [.ref (rho a), .int j].toArray below meth c s.heap [] 0 0 (MQ below (pm_Q rho D cy sw h s.heap.size (some (.int (bl.getD j.toNatClampNeg 0))) h) [.ref (rho a), .int j].toArray s 0 0 (va_A (pm_W cy rho sw h) s.heap.size)) (entryFrame m [.ref (rho a), .int j].toArray 2)
        rw [lg_entry_eq]
        generalize (lg_sl [.ref (rho a), .int j] ++ List.replicate (2 - (lg_sl [.ref (rho a), .int j]).length) Slot.unset).toArray = ls at hl ⊢
        have g0 : ls[0]? = some (.val (.ref (rho a))) := lv_at hl 0 rfl
        have g1 : ls[1]? = some (.val (.int j)) := lv_at hl 1 rfl
        have hS : va_S (va_A (pm_W cy rho sw h) s.heap.size) s.heap s.heap [] := va_S.rf
        have hvp : vp_in j bl.length := pm_inb_vp hin
        refine lv_iload_n (k := 1) B.exec B.bytes (pm_dec (pc := 0) (i := .iload_n 1) rfl (by decide)) rfl g1 ?_
        refine lv_aload_n (k := 0) B.exec B.bytes (pm_dec (pc := 1) (i := .aload_n 0) rfl (by decide)) rfl g0 ?_
        refine va_tlen B.exec B.bytes hT hS rfl (pm_dec (pc := 2) (i := .arraylength) rfl (by decide)) ?_
        have cb : CallB (pm_rm 4) s [.ref (rho a), .int j].toArray "java/lang/StringLatin1" 9 ps_y2 prog_22_method_155_code 2 none ps_w2 (pm_rm 2) 0 0 2 := callB_of 2 hts (ps_good hG (ps_G 1 rfl)) rfl rfl rfl (hts _ (hG _ (ps_G 4 rfl))) (hts _ (hG _ (ps_G 2 rfl))) ⟨by decide, by decide, by decide⟩ ⟨by show 2 + 1 ≤ 4; omega, by show 8 + (2 + 11) + 2 * 40 ≤ 4 * 40; omega⟩
        refine pm_callk (B := fun t => t.heap = s.heap) (A1 := ps_N) (v0 := none) (va_runS (As := [.int j, .int (Int32.ofNat bl.length)]) (rest := []) (g := F0 m 3 ls [.int (Int32.ofNat bl.length), .int j]) ⟨B.exec, B.bytes, hml, hown, hts⟩ (ps_met2 (H0 := s.heap) hj0 hjn) ⟨cb, hts _ (hG _ (ps_G 3 rfl))⟩ ⟨fun a U g mk q => ⟨q.1, q.2.1, va_Zq.moved (u := U) (U := U.calling g mk a) (Vm.Alike.refl U.vm) q.2.2⟩, fun U hU hW => ⟨rfl, hU, ?_⟩⟩ rfl rfl hl.1 rfl (lv_room (by decide)) (pm_dec (pc := 3) (i := .invokestatic 9) rfl (by decide)) ⟨Nat.le_refl _, Nat.le_refl _⟩) ?_ hS (fun _ _ z => z.elim) (fun _ z => z.elim) ?_
        · rw [hU]
          exact (va_Zq.moved hW.alike hKS.2.2.2.2.2.2.1).narrow (fun _ z => z.elim)
        · intro st w t hq
          exact ⟨Outcome.returned.inj hq.1, hq.2.1, hq.2.2⟩
        · intro t locs1 hBt hS1
          refine lv_aload_n (k := 0) B.exec B.bytes (pm_dec (pc := 6) (i := .aload_n 0) rfl (by decide)) rfl g0 ?_
          refine lv_iload_n (k := 1) B.exec B.bytes (pm_dec (pc := 7) (i := .iload_n 1) rfl (by decide)) rfl g1 ?_
          refine va_tb (v := .int (bl.getD j.toNatClampNeg 0)) B.exec B.bytes hT hS1 hvp rfl (pm_dec (pc := 8) (i := .baload) rfl (by decide)) ?_
          refine lv_sipush B.exec B.bytes (pm_dec (pc := 9) (i := .sipush 255) rfl (by decide)) rfl ?_
          refine lv_iand B.exec B.bytes (pm_dec (pc := 12) (i := .iand) rfl (by decide)) ?_
          refine lv_i2c B.exec B.bytes (pm_dec (pc := 13) (i := .i2c) rfl (by decide)) y1 ?_
          refine W.zret B.exec B.bytes B.returns (by show Value.int (vp_nar .char _) = _; rw [y2]) (fun t' ht hW => ⟨rfl, ⟨by rw [ht, hBt]; exact hP, hD0.self⟩, hS1.F ht⟩) hS1.2.2 (pm_dec (pc := 14) (i := .ireturn) rfl (by decide)) B.notSynchronized
      · cases hp
    · cases hp
