/-! THE RUN IS SOUND: what the pure machine answers, the machine answers -/
theorem pm_G_all {mj : Nat} (h : mj < 173) : Cond.code (pm_nm mj) (pm_by mj) (pm_mx mj) (pm_rt mj) ∈ pm_G := by
  have h1 : ((List.range 173).map (fun mj => lw_tbl[(pm_mp.getD mj (0, 0, 0, 0)).1]?))[mj]? = ((List.range 173).map (fun mj => some (Cond.code (pm_nm mj) (pm_by mj) (pm_mx mj) (pm_rt mj))))[mj]? := by rw [pm_mH]
  rw [List.getElem?_map, List.getElem?_map, List.getElem?_range h] at h1
  have h2 : lw_tbl[(pm_mp.getD mj (0, 0, 0, 0)).1]? = some (Cond.code (pm_nm mj) (pm_by mj) (pm_mx mj) (pm_rt mj)) := Option.some.inj h1
  exact List.mem_filter.mpr ⟨List.mem_of_getElem? h2, rfl⟩
theorem pm_mA_at {mj : Nat} (h : mj < 173) : pm_mA mj = true := by
  rcases Nat.lt_or_ge mj 64 with h1 | h1
  · exact List.all_eq_true.mp pm_mA_1 mj (List.mem_range.mpr h1)
  · have h2 := List.all_eq_true.mp pm_mA_2 (mj - 64) (List.mem_range.mpr (by omega))
    rw [show 64 + (mj - 64) = mj by omega] at h2
    exact h2
theorem pm_iv_ok {o idx mj : Nat} (h : pm_iv o idx = some mj) : mj < 173 ∧ Cond.methodLink (pm_on o) idx (pm_nm mj) ∈ pm_G := by
  obtain ⟨p, hp⟩ := pm_f3_mem h
  have h1 := List.all_eq_true.mp (List.all_eq_true.mp pm_iv_all o (List.mem_range.mpr (pm_own12 (by rfl) hp))) _ hp
  obtain ⟨h2, h3⟩ := Bool.and_eq_true_iff.mp h1
  exact ⟨pm_blt h2, pm_mem h3⟩
theorem pm_good_G : ∀ w ∈ pm_G, (w.onTables && w.keeps) = true ∨ ∃ ty, w = .arrayClass ty := fun w hw => good_of_word (List.mem_filter.mp hw).2
theorem pm_goodIn {mi mj : Nat} (hj : mj < 173) : GoodIn (pm_ws mi) (pm_ws mj) := by
  intro w hw
  have hw2 : w ∈ pm_G := by
    rcases List.mem_cons.mp hw with rfl | h1
    · exact pm_G_all hj
    · exact h1
  exact ⟨List.mem_cons_of_mem _ hw2, pm_good_G w hw2⟩
theorem pm_args_c (rho : Nat → Nat) : ∀ (as : List Value) (k : Nat), lv_args k (pm_cS rho as) = pm_cL rho (lv_args k as) := by
  intro as
  induction as with
  | nil => intro k; rfl
  | cons v as ih =>
    intro k
    show (k, pm_cv rho v) :: lv_args (if (pm_cv rho v).category = 2 then k + 2 else k + 1) (pm_cS rho as) = (k, pm_cv rho v) :: pm_cL rho (lv_args (if v.category = 2 then k + 2 else k + 1) as)
    rw [pm_cv_cat, ih]
theorem pm_sl_len (rho : Nat → Nat) (as : List Value) : (lg_sl (pm_cS rho as)).length = (lg_sl as).length := by
  induction as with
  | nil => rfl
  | cons v as ih =>
    unfold lg_sl pm_cS at *
    rw [List.map_cons, List.flatMap_cons, List.flatMap_cons, List.length_append, List.length_append, ih, pm_cv_cat]
    split <;> rfl
theorem pm_cats_c (rho : Nat → Nat) (S : List Value) : ((pm_cS rho S).map fun v => v.category).sum = pm_cats S := by
  unfold pm_cS pm_cats
  rw [List.map_map]
  congr 1
  apply List.map_congr_left
  intro v _
  exact pm_cv_cat rho v
theorem pm_ofW {l : Launch} {y : MethodName} {ws ws' : List Cond} {rm : Room} {Pc : Array Value → State → Prop} {Qc : Array Value → State → Outcome → State → Prop} {mc ms : Nat} {free : Addr → Prop} {cc : ByteArray} {maxL : Nat} {ret : Option FieldType}
    (hy : plainFor y = true) (hw : ws = Cond.code y cc maxL ret :: ws')
    (body : ∀ p e s m args below meth c s₁, BodyLoose p l y (headSpec ws rm) cc maxL ret e s m args below meth c s₁ → c.maxLocals = maxL → Pc args s →
      W p l e (headSpec ws rm).room s m args below meth c s.heap [] 0 0 (MQ below Qc args s mc ms free) (entryFrame m args maxL)) : Met l y ws rm Pc Qc mc ms free := by
  refine MetFree.of_bodySF (code := cc) (maxLocals := maxL) (ret := ret) hy ?_ ?_
  · intro args s m h hn
    obtain ⟨meth, c, h1, h2, h3, h4, h5, h6, -, -⟩ := Cond.code_spec hn (atoms_spec (ws := ws) h _ (by rw [hw]; exact List.mem_cons_self))
    exact ⟨meth, c, h1, h2, h3, h4, h5, h6⟩
  · intro p e s m args below meth c s₁ B hml hP _
    have hh0 : s₁.heap = s.heap := by rw [B.state]; rfl
    obtain ⟨t, a1, o, b1, b2, b3⟩ := body p e s m args below meth c s₁ B hml hP s₁ hh0 (Stand.of_body B)
    exact ⟨t, o, a1, b1, b2, ⟨b3.1, b3.2⟩⟩
/-- the state before a call: the world of h, and what the constants are -/
def pm_B (rho : Nat → Nat) (D : va_G) (cy : Nat → ClassId) (sw : List (Nat × Nat)) (h : pm_H) (sz : Nat) (U : State) : Prop :=
  U.heap.size = sz ∧ va_P D pm_cl (pm_W cy rho sw h) U.heap ∧ va_K D pm_cl (pm_tys cy) U ∧ va_D (fun _ => True) (pm_W cy rho sw h) ∧ pm_KS rho (va_A (pm_W cy rho sw h) sz) U U.heap
/-- and behind it: the answer, the world of h', nothing else written -/
def pm_Q (rho : Nat → Nat) (D : va_G) (cy : Nat → ClassId) (sw : List (Nat × Nat)) (h : pm_H) (sz : Nat) (v : Option Value) (h' : pm_H) : Array Value → State → Outcome → State → Prop := fun _ st o t =>
  o = .returned (v.map (pm_cv rho)) ∧ (va_P D pm_cl (pm_W cy rho sw h') t.heap ∧ va_D (va_A (pm_W cy rho sw h) sz) (pm_W cy rho sw h')) ∧ va_F (va_A (pm_W cy rho sw h) sz) st t
section PM6
variable {p : Program} {l : Launch} {e : Env} {R : Room} {s : State} {m : MethodId} {args : Array Value} {below : List Frame} {meth : Method} {c : Code} {H : Heap} {locs : List Loc} {cells slots : Nat} {Q : State → Prop} {pc : Nat} {ls : Array Slot} {rest st0 : List Value} {A0 A1 : Nat → Prop} {H0 : Heap} {free : Addr → Prop}
theorem pm_callk {Qa : State → Outcome → State → Prop} {B : State → Prop} {v0 : Option Value} (hr : va_Run p l e R s m args below meth c H locs cells slots 0 0 (F0 m pc ls st0) rest Qa free) (hQ : ∀ (st : State) (v : Option Value) (t : State), Qa st (.returned v) t → v = v0 ∧ B t ∧ va_F A1 st t) (hS : va_S A0 H0 H locs) (hA : ∀ q, q < H.size → A1 q → A0 q) (hf : ∀ q, free q → A0 q)
    (kk : ∀ (t : State) (locs1 : List Loc), B t → va_S A0 H0 t.heap locs1 → W p l e R s m args below meth c t.heap locs1 cells slots Q (F0 m (pc + 3) ls (v0.toList ++ rest))) : W p l e R s m args below meth c H locs cells slots Q (F0 m pc ls st0) := by
  intro T hT X
  obtain ⟨v, st₀, t, T', L, h0, X', hL, e1, e2, hq, st⟩ := hr T hT X
  obtain ⟨rfl, hb, hz, hk⟩ := hQ st₀ v t hq
  rw [h0] at hz hk
  obtain ⟨t2, a1, b1⟩ := kk t (locs ++ L) hb
    ⟨Nat.le_trans hS.1 hz, fun q h1 h2 => by rw [hk q (Nat.lt_of_lt_of_le h1 hS.1) (fun z => h2 (hA q (Nat.lt_of_lt_of_le h1 hS.1) z))]; exact hS.2.1 q h1 h2, fun q hq => by
      rcases List.mem_append.mp hq with h | h
      · exact hS.2.2 q h
      · exact hf _ (hL q h)⟩ T' e1 X'
  exact ⟨t2, st t2 a1, b1⟩
end PM6
theorem pm_cS_app (rho : Nat → Nat) (a b : List Value) : pm_cS rho (a ++ b) = pm_cS rho a ++ pm_cS rho b := List.map_append
theorem pm_cS_rev (rho : Nat → Nat) (a : List Value) : pm_cS rho a.reverse = (pm_cS rho a).reverse := List.map_reverse
theorem pm_toList_c (rho : Nat → Nat) (v : Option Value) : (v.map (pm_cv rho)).toList = pm_cS rho v.toList := by cases v <;> rfl
section PM7
variable {l : Launch} {rho : Nat → Nat} {D : va_G} {cy : Nat → ClassId} {sw : List (Nat × Nat)}
/-- one method's body from a place on -/
def pm_Bd (l : Launch) (rho : Nat → Nat) (D : va_G) (cy : Nat → ClassId) (sw : List (Nat × Nat)) (n : Nat) : Prop :=
  ∀ (d mi pc : Nat) (L : pm_L) (S : List Value) (h : pm_H) (v : Option Value) (h' : pm_H), pm_run sw n d mi pc L S h = some (v, h') → mi < 173 →
  ∀ (p : Program) (e : Env) (s : State) (m : MethodId) (args : Array Value) (below : List Frame) (meth : Method) (c : Code) (H : Heap) (locs : List Loc) (ls : Array Slot) (A : Nat → Prop) (Qc : Array Value → State → Outcome → State → Prop),
  p.tables.exec = Jvm.exec → c.code = pm_by mi → c.maxLocals = pm_mx mi → s.vm.findClass (pm_on (pm_ow mi)) = some m.cls → (∀ w ∈ pm_ws mi, w.before args s = true) → meth.sig.returnType = pm_rt mi → meth.locks = false →
  va_K D pm_cl (pm_tys cy) s → va_P D pm_cl (pm_W cy rho sw h) H → va_D A (pm_W cy rho sw h) → va_S A s.heap H locs → (∀ q, s.heap.size ≤ q → A q) → pm_KS rho A s s.heap → lv_has ls (pm_mx mi) (pm_cL rho L) →
  (∀ (t : State) (locs1 : List Loc), s.WarmedH t.vm → va_P D pm_cl (pm_W cy rho sw h') t.heap → va_D A (pm_W cy rho sw h') → va_S A s.heap t.heap locs1 → Qc args s (.returned (v.map (pm_cv rho))) t) →
  W p l e (pm_rm d) s m args below meth c H locs 0 0 (MQ below Qc args s 0 0 A) (F0 m pc ls (pm_cS rho S))
theorem pm_met_of {n d mj : Nat} {as : List Value} {h h' : pm_H} {v : Option Value} (hB : pm_Bd l rho D cy sw n) (hrun : pm_run sw n d mj 0 (lv_args 0 as) [] h = some (v, h')) (hj : mj < 173) (hfit : (lg_sl as).length ≤ pm_mx mj) (sz : Nat) :
    Met l (pm_nm mj) (pm_ws mj) (pm_rm d) (va_Pc (pm_cS rho as) (pm_B rho D cy sw h sz)) (pm_Q rho D cy sw h sz v h') 0 0 (va_A (pm_W cy rho sw h) sz) := by
  have hfor : plainFor (pm_nm mj) = true := List.all_eq_true.mp pm_mE mj (List.mem_range.mpr hj)
  refine pm_ofW (cc := pm_by mj) (maxL := pm_mx mj) (ret := pm_rt mj) hfor rfl ?_
  intro p e s m args below meth c s₁ B hml hv
  obtain ⟨rfl, rfl, hP, hK, hD0, hKS⟩ := hv
  have hcls : (pm_nm mj).cls = pm_on (pm_ow mj) := of_decide_eq_true (List.all_eq_true.mp pm_mC mj (List.mem_range.mpr hj))
  have hown : s.vm.findClass (pm_on (pm_ow mj)) = some m.cls := by
    rw [← hcls]
    exact findClass_of_methodNamed B.named
  have hl := lv_entry (pm_cS rho as) (n := pm_mx mj) (by rw [pm_sl_len]; exact hfit)
  rw [pm_args_c] at hl
  rw [lg_entry_eq]
  refine hB d mj 0 (lv_args 0 as) [] h v h' hrun hj p e s m _ below meth c s.heap [] _ (va_A (pm_W cy rho sw h) s.heap.size) _ B.exec B.bytes hml hown (atoms_spec (ws := pm_ws mj) B.pre) B.returns B.notSynchronized hK hP hD0.self va_S.rf (fun q hq => Or.inr hq) hKS hl ?_
  intro t locs1 _ hP1 hD1 hS1
  exact ⟨rfl, ⟨hP1, hD1⟩, hS1.F rfl⟩
end PM7
