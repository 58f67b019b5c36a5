/-! Methods of the class that throw: run up to the throw or the return -/
def pt_stop (mi pc : Nat) : Bool := match pm_fd (pm_code mi) pc with
  | some (.new _) => true
  | some .ireturn => true
  | some .return_ => true
  | _ => false
/-- the exceptions that the class throws: place of the class link, number, place of the constructor's link -/
def pt_xl : List (Nat × Nat × Nat) := [(82, 0, 84), (89, 1, 91), (96, 2, 98)]
def pt_xn (k : Nat) : String := match k with
  | 0 => "java/lang/IllegalStateException"
  | 1 => "java/lang/IndexOutOfBoundsException"
  | _ => "java/lang/IllegalArgumentException"
def pt_xf : List (Nat × Nat × Nat) → Nat → Option (Nat × Nat)
  | [], _ => none
  | q :: l, k => bif Nat.beq q.1 k then some q.2 else pt_xf l k
/-- the answer: returned with v, or thrown -/
def pt_end (mi pc : Nat) (S : List Value) (h : pm_H) : Option ((Option Value × pm_H) ⊕ (Nat × pm_H)) := match pm_fd (pm_code mi) pc with
  | some (.new ik) => match pt_xf pt_xl ik with
    | some (x, ic) => bif (decide (pm_fd (pm_code mi) (pc + 3) = some .dup) && (decide (pm_fd (pm_code mi) (pc + 4) = some (.invokespecial ic)) && decide (pm_fd (pm_code mi) (pc + 7) = some .athrow))) && Nat.ble (pm_cats S) 8 then some (.inr (x, h)) else none
    | none => none
  | some i => match pm_ret i (pm_rt mi) S with
    | some v => some (.inl (v, h))
    | none => none
  | none => none
def pt_run (sw : List (Nat × Nat)) (n d mi : Nat) (as : List Value) (h : pm_H) : Option ((Option Value × pm_H) ⊕ (Nat × pm_H)) := match pp_run sw (pt_stop mi) n d mi 0 (lv_args 0 as) [] h with
  | some (pc, _, S, h') => pt_end mi pc S h'
  | none => none
def pt_Q (rho : Nat → Nat) (D : va_G) (cy : Nat → ClassId) (sw : List (Nat × Nat)) (h : pm_H) (sz : Nat) (r : (Option Value × pm_H) ⊕ (Nat × pm_H)) : Array Value → State → Outcome → State → Prop := match r with
  | .inl q => pm_Q rho D cy sw h sz q.1 q.2
  | .inr _ => fun _ _ _ _ => False
def pt_X (rho : Nat → Nat) (D : va_G) (cy : Nat → ClassId) (sw : List (Nat × Nat)) (h : pm_H) (sz : Nat) (r : (Option Value × pm_H) ⊕ (Nat × pm_H)) : String → State → State → Prop := match r with
  | .inl _ => fun _ _ _ => False
  | .inr q => fun E st t => E = pt_xn q.1 ∧ (va_P D pm_cl (pm_W cy rho sw q.2) t.heap ∧ va_D (va_A (pm_W cy rho sw h) sz) (pm_W cy rho sw q.2)) ∧ va_F (va_A (pm_W cy rho sw h) sz) st t
/-- words of a throw that the tables decide but no method's list carries -/
def pt_ex : List Cond := [.castable (pt_xn 0) (pt_xn 0), .castable (pt_xn 1) (pt_xn 1), .castable (pt_xn 2) (pt_xn 2), .declares ⟨"java/lang/RuntimeException", "<init>", "()V"⟩, .declares ⟨"java/lang/Exception", "<init>", "()V"⟩, .declares ⟨"java/lang/Throwable", "<init>", "()V"⟩]
theorem pt_ex_moved {u U : State} (hvm : u.vm.Alike U.vm) : ∀ w ∈ pt_ex, w.before #[] u = true → w.before #[] U = true := by
  intro w hw h
  unfold pt_ex at hw
  simp only [List.mem_cons, List.not_mem_nil, or_false] at hw
  rcases hw with rfl | rfl | rfl | rfl | rfl | rfl
  · rw [← Cond.castable_setVm hvm] at h; exact va_tabs rfl (rfl : (u.setVm U.vm).vm = U.vm) h
  · rw [← Cond.castable_setVm hvm] at h; exact va_tabs rfl (rfl : (u.setVm U.vm).vm = U.vm) h
  · rw [← Cond.castable_setVm hvm] at h; exact va_tabs rfl (rfl : (u.setVm U.vm).vm = U.vm) h
  · rw [← Cond.declares_setVm hvm] at h; exact va_tabs rfl (rfl : (u.setVm U.vm).vm = U.vm) h
  · rw [← Cond.declares_setVm hvm] at h; exact va_tabs rfl (rfl : (u.setVm U.vm).vm = U.vm) h
  · rw [← Cond.declares_setVm hvm] at h; exact va_tabs rfl (rfl : (u.setVm U.vm).vm = U.vm) h
theorem pt_ex_cast {x : Nat} (hx : x < 3) : Cond.castable (pt_xn x) (pt_xn x) ∈ pt_ex := by
  match x, hx with
  | 0, _ => exact List.mem_of_getElem? (i := 0) rfl
  | 1, _ => exact List.mem_of_getElem? (i := 1) rfl
  | 2, _ => exact List.mem_of_getElem? (i := 2) rfl
/-- what a throw needs of the tables and statics -/
def pt_K (A : Nat → Prop) (U : State) (H : Heap) : Prop := vx_Zq Bundle.tN "UNASSIGNED_STACK" Bundle.steD A U H ∧ vx_Zq Bundle.tN "SUPPRESSED_SENTINEL" Bundle.listD A U H ∧ (∀ w ∈ pt_ex, w.before #[] U = true) ∧ va_Nc (pt_xn 1) (pt_xn 0) U ∧ va_Nc (pt_xn 2) (pt_xn 0) U
theorem pt_K.moved {A : Nat → Prop} {u U : State} {H : Heap} (hvm : u.vm.Alike U.vm) (h : pt_K A u H) : pt_K A U H := ⟨vx_Zq.moved hvm h.1, vx_Zq.moved hvm h.2.1, fun w hw => pt_ex_moved hvm w hw (h.2.2.1 w hw), va_Nc.moved hvm h.2.2.2.1, va_Nc.moved hvm h.2.2.2.2⟩
theorem pt_K.kept {A : Nat → Prop} {U : State} {H H1 : Heap} (h : pt_K A U H) (hq : ∀ a : Nat, a < H.size → ¬ A a → H1[a]? = H[a]?) : pt_K A U H1 := ⟨h.1.kept hq, h.2.1.kept hq, h.2.2⟩
theorem pt_K.narrow {A B : Nat → Prop} {U : State} {H : Heap} (h : pt_K A U H) (hAB : ∀ q, B q → A q) : pt_K B U H := ⟨h.1.narrow hAB, h.2.1.narrow hAB, h.2.2⟩
def pt_nms : List String := ["java/lang/RuntimeException", "java/lang/Exception"]
set_option maxRecDepth 100000 in
theorem pt_w0 : pt_xl.all (fun q => (vx_at0 "QuietChecker" q.2.2 (pt_xn q.2.1) pt_nms).all (fun w => (decide (w ∈ pt_ex) && w.onTables) || (goodWord w && decide (w ∈ lw_tbl)))) = true := by decide +kernel
set_option maxRecDepth 100000 in
theorem pt_w1 : pt_xl.all (fun q => (decide (Cond.classLink "QuietChecker" q.1 (pt_xn q.2.1) ∈ lw_tbl) && decide (Cond.initialized (pt_xn q.2.1) ∈ lw_tbl)) && (Nat.blt q.2.1 3 && (Bundle.fit (pt_xn q.2.1) && pt_nms.all Bundle.fit))) = true := by decide +kernel
section PT1
variable {l : Launch} {rho : Nat → Nat} {D : va_G} {cy : Nat → ClassId} {sw : List (Nat × Nat)}
theorem pm_ret_snd {p : Program} {e : Env} {R : Room} {s : State} {m : MethodId} {args : Array Value} {below : List Frame} {meth : Method} {c : Code} {H : Heap} {locs : List Loc} {cells slots : Nat} {cc : ByteArray} {pc : Nat} {ls : Array Slot} {S : List Value} {A : Nat → Prop} {Qc : Array Value → State → Outcome → State → Prop} {rt : Option FieldType} (hx : p.tables.exec = Jvm.exec) (hb : c.code = cc) (hrt : meth.sig.returnType = rt) (hlk : meth.locks = false) {i : Instr} {w : Option Value} (hdg : decode cc pc = .ok (i, pm_ln i)) (h7 : pm_ret i rt S = some w) (hf : ∀ q ∈ locs, A q.base)
    (hQ : ∀ t : State, t.heap = H → s.WarmedH t.vm → Qc args s (.returned (w.map (pm_cv rho))) t) : W p l e R s m args below meth c H locs cells slots (MQ below Qc args s cells slots A) (F0 m pc ls (pm_cS rho S)) := by
  unfold pm_ret at h7
  split at h7
  · split at h7
    · split at h7
      · cases h7
        exact W.iret hx hb hrt hQ hf hdg hlk
      · split at h7
        · rename_i h01
          cases h7
          exact W.zret hx hb hrt (by rcases h01 with rfl | rfl <;> decide) hQ hf hdg hlk
        · cases h7
      · split at h7
        · rename_i x _ hch
          cases h7
          exact W.zret hx hb hrt (by show Value.int (vp_nar .char x) = _; rw [hch]) hQ hf hdg hlk
        · cases h7
      · split at h7
        · rename_i x _ hch
          cases h7
          exact W.zret hx hb hrt (by show Value.int (vp_nar .byte x) = _; rw [hch]) hQ hf hdg hlk
        · cases h7
      · cases h7
    · cases h7
  · split at h7
    · split at h7
      · cases h7
        exact W.vret hx hb hrt hQ hf hdg hlk
      · cases h7
    · cases h7
  · split at h7
    · split at h7
      · cases h7
        exact W.aret hx hb hrt (Or.inl ⟨_, rfl⟩) (Or.inr ⟨_, rfl⟩) hQ hf hdg hlk
      · cases h7
        exact W.aret hx hb hrt (Or.inr ⟨_, rfl⟩) (Or.inr ⟨_, rfl⟩) hQ hf hdg hlk
      · cases h7
    · cases h7
  · cases h7
theorem pt_xf_mem : ∀ {l : List (Nat × Nat × Nat)} {k a b : Nat}, pt_xf l k = some (a, b) → (k, a, b) ∈ l := by
  intro l
  induction l with
  | nil => intro k a b h; cases h
  | cons q l ih =>
    intro k a b h
    unfold pt_xf at h
    cases hb : Nat.beq q.1 k with
    | true =>
      rw [hb] at h
      have h1 : q.1 = k := Nat.eq_of_beq_eq_true hb
      have h2 : q.2 = (a, b) := Option.some.inj h
      obtain ⟨q1, q2⟩ := q
      dsimp only at h1 h2
      subst h1; subst h2
      exact List.mem_cons_self
    | false =>
      rw [hb] at h
      exact List.mem_cons_of_mem _ (ih h)
theorem pt_met (hinj : ∀ a b, pm_kc a = true → pm_kc b = true → rho a = rho b → a = b) (hprim : ∀ (mj : Nat) (as : List Value) (v : Value), pm_prim mj as = some v → ∀ (h : pm_H) (sz : Nat), Met l (pm_nm mj) (pm_ws mj) (pm_rm 4) (va_Pc (pm_cS rho as) (pm_B rho D cy sw h sz)) (pm_Q rho D cy sw h sz (some v) h) 0 0 (va_A (pm_W cy rho sw h) sz)) (htr : l.stackTraces = false) {n d mi : Nat} {as : List Value} {h : pm_H} {r : (Option Value × pm_H) ⊕ (Nat × pm_H)} (hrun : pt_run sw n d mi as h = some r) (hj : mi < 173) (how : pm_ow mi = 5) (hd : 6 ≤ d) (hfit : (lg_sl as).length ≤ pm_mx mi) (sz : Nat) :
    vx_Met l (pm_nm mi) (pm_ws mi) (pn_rm d 1 6) (va_Pc (pm_cS rho as) (fun U => pm_B rho D cy sw h sz U ∧ pt_K (va_A (pm_W cy rho sw h) sz) U U.heap)) (pt_Q rho D cy sw h sz r) (pt_X rho D cy sw h sz r) 1 6 (va_A (pm_W cy rho sw h) sz) := by
  have hcls : (pm_nm mi).cls = pm_on (pm_ow mi) := of_decide_eq_true (List.all_eq_true.mp pm_mC mi (List.mem_range.mpr hj))
  refine vx_ofW (cc := pm_by mi) (maxL := pm_mx mi) (ret := pm_rt mi) (by rw [hcls, how]; decide) rfl ?_
  intro p e s m args below meth c s₁ B hml htab hv
  obtain ⟨rfl, ⟨rfl, hP, hK, hD0, hKS⟩, hPT⟩ := hv
  have hown : s.vm.findClass (pm_on (pm_ow mi)) = some m.cls := by
    rw [← hcls]
    exact findClass_of_methodNamed B.named
  have hts := atoms_spec (ws := pm_ws mi) B.pre
  have hG : ∀ w ∈ pm_G, w ∈ pm_ws mi := fun w hw => List.mem_cons_of_mem _ hw
  have hl := lv_entry (pm_cS rho as) (n := pm_mx mi) (by rw [pm_sl_len]; exact hfit)
  rw [pm_args_c] at hl
  unfold pt_run at hrun
  cases hpp : pp_run sw (pt_stop mi) n d mi 0 (lv_args 0 as) [] h with
  | none => rw [hpp] at hrun; cases hrun
  | some q =>
    obtain ⟨pc, L, S, h'⟩ := q
    rw [hpp] at hrun
    dsimp only at hrun
    rw [lg_entry_eq]
    refine pp_body hinj hprim (pt_stop mi) n d mi 0 (lv_args 0 as) [] h pc L S h' hpp p e _ s m _ below meth c s.heap [] _ (va_A (pm_W cy rho sw h) s.heap.size) _ 0 0 (pm_ws mi) B.exec B.bytes hml hown hts hG ⟨Nat.le_refl _, Nat.le_refl _, Nat.zero_le _, Nat.zero_le _⟩ hK hP hD0.self va_S.rf (fun q hq => Or.inr hq) hKS hl ?_
    intro H1 locs1 ls1 hP1 hD1 hS1 hl1
    unfold pt_end at hrun
    split at hrun
    · rename_i ik hfd
      split at hrun
      · rename_i x ic hxf
        obtain ⟨hg, he⟩ := pm_bif hrun
        cases he
        obtain ⟨g1, g2⟩ := Bool.and_eq_true_iff.mp hg
        obtain ⟨g3, g4⟩ := Bool.and_eq_true_iff.mp g1
        obtain ⟨g5, g6⟩ := Bool.and_eq_true_iff.mp g4
        have hmem := pt_xf_mem hxf
        have w0 := List.all_eq_true.mp pt_w0 _ hmem
        have w1 := List.all_eq_true.mp pt_w1 _ hmem
        dsimp only at w0 w1
        obtain ⟨w2, w3⟩ := Bool.and_eq_true_iff.mp w1
        obtain ⟨w4, w5⟩ := Bool.and_eq_true_iff.mp w2
        obtain ⟨w6, w7⟩ := Bool.and_eq_true_iff.mp w3
        obtain ⟨w8, w9⟩ := Bool.and_eq_true_iff.mp w7
        have hx3 := pm_blt w6
        have hin : ∀ w, w ∈ lw_tbl → goodWord w = true → w.before (pm_cS rho as).toArray s = true := fun w h1 h2 => hts w (hG w (List.mem_filter.mpr ⟨h1, h2⟩))
        have d0 := pm_decode hfd
        have d3 := pm_decode (of_decide_eq_true g3)
        have d4 := pm_decode (of_decide_eq_true g5)
        have d7 := pm_decode (of_decide_eq_true g6)
        obtain ⟨l0, d0, e0⟩ := d0
        obtain ⟨l3, d3, e3⟩ := d3
        obtain ⟨l4, d4, e4⟩ := d4
        obtain ⟨l7, d7, e7⟩ := d7
        have e0 := e0.resolve_left (fun z => by cases z)
        have e3 := e3.resolve_left (fun z => by cases z)
        have e4 := e4.resolve_left (fun z => by cases z)
        have e7 := e7.resolve_left (fun z => by cases z)
        subst e0; subst e3; subst e4; subst e7
        rw [how] at hown
        refine vx_throw0 (own := "QuietChecker") (cls := pt_xn x) (names := pt_nms) (A := va_A (pm_W cy rho sw h) s.heap.size) B.exec B.bytes htr hown w8 (fun n hn => List.all_eq_true.mp w9 n hn) (hin _ (of_decide_eq_true w4) rfl) (hin _ (of_decide_eq_true w5) rfl) (fun w hw => ?_) (fun w hw => ?_) hPT.1 hPT.2.1 hS1 (hl1.1.trans hml.symm) d0 d3 d4 d7 (fun x hx => (htab x hx).elim) ?_ ?_ (Nat.le_refl _) (Nat.le_refl _) B.notSynchronized ?_ hS1.2.2 (Nat.le_refl _) (Nat.le_refl _)
        · rcases Bool.or_eq_true_iff.mp (List.all_eq_true.mp w0 w hw) with h1 | h1
          · obtain ⟨h2, h3⟩ := Bool.and_eq_true_iff.mp h1
            exact va_tabs h3 rfl (hPT.2.2.1 w (of_decide_eq_true h2))
          · obtain ⟨h2, h3⟩ := Bool.and_eq_true_iff.mp h1
            exact hin w (of_decide_eq_true h3) h2
        · rcases List.mem_cons.mp hw with rfl | hw
          · rfl
          rcases List.mem_cons.mp hw with rfl | hw
          · rfl
          rcases Bool.or_eq_true_iff.mp (List.all_eq_true.mp w0 w hw) with h1 | h1
          · unfold vx_ot
            rw [(Bool.and_eq_true_iff.mp h1).2, Bool.true_or]
          · unfold vx_ot
            rw [(Bool.and_eq_true_iff.mp h1).1, Bool.or_true]
        · show 2 + 3 < d
          omega
        · have := Nat.le_of_ble_eq_true g2
          rw [← pm_cats_c rho] at this
          show _ + (13 * (2 + 1) + 42) ≤ d * 40
          exact Nat.le_trans (Nat.add_le_add_right this _) (by omega)
        · intro t hal hsz hkp
          refine ⟨rfl, ⟨hP1.kept (fun k q hq => hkp q.1 ((hP1 k q hq).lt)), hD1⟩, Nat.le_trans hS1.1 hsz, fun q h1 h2 => ?_⟩
          rw [hkp q (Nat.lt_of_lt_of_le h1 hS1.1)]
          exact hS1.2.1 q h1 h2
      · cases hrun
    · rename_i i hnew hfd
      split at hrun
      · rename_i v hret
        cases hrun
        obtain ⟨len, hdec, hlen⟩ := pm_decode hfd
        have hdg : decode (pm_by mi) pc = .ok (i, pm_ln i) := by
          rcases hlen with h1 | h1
          · unfold pm_ret at hret; split at hret <;> first | cases h1 | cases hret
          · rw [hdec, h1]
        refine vx_ret (W.widen (k := 1) (n := 6) (Nat.zero_le _) (Nat.zero_le _) ?_)
        refine pm_ret_snd B.exec B.bytes B.returns B.notSynchronized hdg hret hS1.2.2 (fun t ht hW => ?_)
        exact ⟨rfl, ⟨by rw [ht]; exact hP1, hD1⟩, hS1.F ht⟩
      · cases hrun
    · cases hrun
end PT1
