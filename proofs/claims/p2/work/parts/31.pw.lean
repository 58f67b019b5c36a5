/-! The law's wrappers: a call that may throw, and its handlers -/
def pw_stop (mi pc : Nat) : Bool := match pm_fd (pm_code mi) pc with
  | some (.invokevirtual _) => true
  | some .ireturn => true
  | _ => false
/-- the tables of the wrappers: start, end, handler, place of the class link -/
def pw_hh (mi : Nat) : List (Nat × Nat × Nat × Nat) := match mi with
  | 174 => [(0, 7, 10, 13), (0, 7, 14, 15)]
  | 175 => [(0, 9, 12, 13), (0, 9, 15, 21)]
  | 176 => [(0, 9, 12, 13)]
  | 177 => [(0, 10, 13, 13), (0, 10, 17, 15)]
  | 178 => [(0, 9, 12, 13), (0, 9, 15, 15)]
  | _ => [(0, 12, 15, 15)]
/-- which exception a handler is for -/
def pw_cx (idx : Nat) : Nat := match idx with
  | 13 => 0
  | 15 => 1
  | _ => 2
/-- the handler of exception x at pc: the first row, or the second behind a row for exception 0 -/
def pw_find (hh : List (Nat × Nat × Nat × Nat)) (pc x : Nat) : Option Nat := match hh with
  | [q] => bif (Nat.ble q.1 pc && Nat.blt pc q.2.1) && Nat.beq (pw_cx q.2.2.2) x then some q.2.2.1 else none
  | [q, r] => bif (Nat.ble q.1 pc && Nat.blt pc q.2.1) && Nat.beq (pw_cx q.2.2.2) x then some q.2.2.1 else
      (bif (Nat.beq (pw_cx q.2.2.2) 0 && (Nat.ble r.1 pc && Nat.blt pc r.2.1)) && (Nat.beq (pw_cx r.2.2.2) x && !Nat.beq x 0) then some r.2.2.1 else none)
  | _ => none
/-- a handler: it drops the exception and answers a constant -/
def pw_hk (mi hpc : Nat) : Option Int := match pm_fd (pm_code mi) hpc with
  | some (.astore j) => bif Nat.blt j (pm_mx mi) then (match pm_fd (pm_code mi) (hpc + 2) with
      | some (.iconst k) => bif decide (pm_fd (pm_code mi) (hpc + 3) = some .ireturn) then some k else none
      | _ => none) else none
  | some (.astore_n j) => bif Nat.blt j (pm_mx mi) then (match pm_fd (pm_code mi) (hpc + 1) with
      | some (.iconst k) => bif decide (pm_fd (pm_code mi) (hpc + 2) = some .ireturn) then some k else none
      | _ => none) else none
  | _ => none
def pw_run (sw : List (Nat × Nat)) (n d mi : Nat) (as : List Value) (h : pm_H) : Option (Int32 × pm_H) := match pp_run sw (pw_stop mi) n d mi 0 (lv_args 0 as) [] h with
  | some (pc, L, S, h1) => match pm_fd (pm_code mi) pc with
    | some (.invokevirtual idx) => match pm_call (.invokevirtual idx) sw (pm_ow mi) S with
      | some (mj, as2, S1) => bif Nat.beq (pm_ow mj) 5 then (match pt_run sw n d mj as2 h1 with
        | some (.inl (v, h2)) => (match pp_run sw (pw_stop mi) n d mi (pc + 3) L (v.toList ++ S1) h2 with
          | some (pc3, _, S3, h3) => (match pm_fd (pm_code mi) pc3 with
            | some .ireturn => (match S3 with
              | [.int k] => some (k, h3)
              | _ => none)
            | _ => none)
          | none => none)
        | some (.inr (x, h2)) => (match pw_find (pw_hh mi) pc x with
          | some hpc => (pw_hk mi hpc).map (fun k => (Int32.ofInt k, h2))
          | none => none)
        | none => none) else none
      | none => none
    | _ => none
  | none => none
section PW1
variable {p : Program} {l : Launch} {e : Env} {R : Room} {s : State} {m : MethodId} {args : Array Value} {below : List Frame} {meth : Method} {c : Code} {H : Heap} {locs : List Loc} {cells slots : Nat} {Q : State → Prop} {pc : Nat} {ls : Array Slot} {rest st0 : List Value} {A0 A1 : Nat → Prop} {H0 : Heap} {free : Addr → Prop} {mc ms : Nat}
/-- behind a call that may throw -/
theorem pw_callk {Qa : State → Outcome → State → Prop} {XC : String → State → State → Prop} (hr : vx_Run p l e R s m args below meth c H locs cells slots mc ms (F0 m pc ls st0) rest Qa XC free) (hQ : ∀ (st : State) (v : Option Value) (t : State), Qa st (.returned v) t → va_F A1 st t) (hX : ∀ (E : String) (st t : State), XC E st t → va_F A1 st t) (hS : va_S A0 H0 H locs) (hA : ∀ q, q < H.size → A1 q → A0 q) (hf : ∀ q, free q → A0 q)
    (kx : ∀ (E : String) (ce : Cell) (q9 : Addr) (st t : State) (locs1 : List Loc), XC E st t → va_S A0 H0 t.heap locs1 → t.heap[q9]? = some ce → ce.vm = .none → s.vm.findClass E = some ce.cls → vx_W p l e R s m args below meth c t.heap locs1 (cells + mc) (slots + ms) Q (F0 m pc ls rest) q9)
    (kk : ∀ (st t : State) (v : Option Value) (locs1 : List Loc), Qa st (.returned v) t → va_S A0 H0 t.heap locs1 → W p l e R s m args below meth c t.heap locs1 (cells + mc) (slots + ms) Q (F0 m (pc + 3) ls (v.toList ++ rest))) : W p l e R s m args below meth c H locs cells slots Q (F0 m pc ls st0) := by
  have key : ∀ (st t : State) (L : List Loc), st.heap = H → va_F A1 st t → (∀ q ∈ L, free q.base) → va_S A0 H0 t.heap (locs ++ L) := by
    intro st t L h0 hF hL
    obtain ⟨hz, hk⟩ := hF
    rw [h0] at hz hk
    refine ⟨Nat.le_trans hS.1 hz, fun q h1 h2 => ?_, fun q hq => ?_⟩
    · rw [hk q (Nat.lt_of_lt_of_le h1 hS.1) (fun z => h2 (hA q (Nat.lt_of_lt_of_le h1 hS.1) z))]
      exact hS.2.1 q h1 h2
    · rcases List.mem_append.mp hq with h | h
      · exact hS.2.2 q h
      · exact hf _ (hL q h)
  intro T hT X
  rcases hr T hT X with ⟨v, st₀, t, T', L, h0, X', hL, e1, e2, hq, st⟩ | ⟨q, st₀, t, T', L, E, ce, h0, X', hL, e1, e2, hq, hce, hcv, hcl, st⟩
  · obtain ⟨t2, a1, b1⟩ := kk st₀ t v (locs ++ L) hq (key st₀ t L h0 (hQ _ _ _ hq) hL) T' e1 X'
    exact ⟨t2, st t2 a1, b1⟩
  · obtain ⟨t2, a1, b1⟩ := kx E ce q st₀ t (locs ++ L) hq (key st₀ t L h0 (hX _ _ _ hq) hL) hce hcv hcl T' e1 X'
    exact ⟨t2, st.trans a1, b1⟩
end PW1
def pw_ws (mi : Nat) : List Cond := Cond.codeWith (pm_nm mi) (pm_by mi) (pm_mx mi) (some .int) (pw_hh mi) :: pm_G
set_option maxRecDepth 100000 in
theorem pw_lk : ([13, 15, 21] : List Nat).all (fun i => decide (Cond.classLink "QuietCheckerLaw" i (pt_xn (pw_cx i)) ∈ lw_tbl)) = true := by decide +kernel
theorem pw_ofW {l : Launch} {y : MethodName} {ws ws' : List Cond} {rm : Room} {Pc : Array Value → State → Prop} {Qc : Array Value → State → Outcome → State → Prop} {mc ms : Nat} {free : Addr → Prop} {cc : ByteArray} {maxL : Nat} {ret : Option FieldType} {hh : List (Nat × Nat × Nat × Nat)}
    (hy : plainFor y = true) (hw : ws = Cond.codeWith y cc maxL ret hh :: ws')
    (body : ∀ p e s m args below meth c s₁, BodyLoose p l y (headSpec ws rm) cc maxL ret e s m args below meth c s₁ → c.maxLocals = maxL → Pc args s →
      W p l e (headSpec ws rm).room s m args below meth c s.heap [] 0 0 (MQ below Qc args s mc ms free) (entryFrame m args maxL)) : Met l y ws rm Pc Qc mc ms free := by
  refine MetFree.of_bodySF (code := cc) (maxLocals := maxL) (ret := ret) hy ?_ ?_
  · intro args s m h hn
    obtain ⟨m9, meth, c, hn9, h1, h2, h3, h4, -, h5, h6, -⟩ := Cond.codeWith_spec (atoms_spec (ws := ws) h _ (by rw [hw]; exact List.mem_cons_self))
    cases hn.symm.trans hn9
    exact ⟨meth, c, h1, h2, h3, h4, h5, h6⟩
  · intro p e s m args below meth c s₁ B hml hP _
    have hh0 : s₁.heap = s.heap := by rw [B.state]; rfl
    obtain ⟨t, a1, o, b1, b2, b3⟩ := body p e s m args below meth c s₁ B hml hP s₁ hh0 (Stand.of_body B)
    exact ⟨t, o, a1, b1, b2, ⟨b3.1, b3.2⟩⟩
theorem pw_cov {q : Nat × Nat × Nat × Nat} {pc : Nat} (h : (Nat.ble q.1 pc && Nat.blt pc q.2.1) = true) : covers (⟨q.1, q.2.1, q.2.2.1, q.2.2.2⟩ : ExceptionTableEntry) pc = true := by
  obtain ⟨h1, h2⟩ := Bool.and_eq_true_iff.mp h
  have h1 := Nat.le_of_ble_eq_true h1
  have h2 := pm_blt h2
  simp [covers, h1, h2]
/-- an exception that a wrapper's table names goes to its handler -/
theorem pw_catch {p : Program} {l : Launch} {e : Env} {R : Room} {s : State} {m : MethodId} {args : Array Value} {below : List Frame} {meth : Method} {c : Code} {H : Heap} {locs : List Loc} {cells slots : Nat} {Q : State → Prop} {pc : Nat} {ls : Array Slot} {rest : List Value} {hh : List (Nat × Nat × Nat × Nat)} {x hpc : Nat} {ce : Cell} {q9 : Addr} (hown : s.vm.findClass "QuietCheckerLaw" = some m.cls) (htab : c.exceptionTable.toList = tableOf hh) (hfind : pw_find hh pc x = some hpc) (hx : x < 3) (hidx : ∀ q ∈ hh, q.2.2.2 ≠ 0 ∧ (Cond.classLink "QuietCheckerLaw" q.2.2.2 (pt_xn (pw_cx q.2.2.2))).before args s = true)
    (hcast : (Cond.castable (pt_xn x) (pt_xn x)).before args s = true) (hN1 : va_Nc (pt_xn 1) (pt_xn 0) s) (hN2 : va_Nc (pt_xn 2) (pt_xn 0) s) (hcell : H[q9]? = some ce) (hv : ce.vm = .none) (hcl : s.vm.findClass (pt_xn x) = some ce.cls)
    (kk : W p l e R s m args below meth c H locs cells slots Q (F0 m hpc ls [.ref q9])) : vx_W p l e R s m args below meth c H locs cells slots Q (F0 m pc ls rest) q9 := by
  unfold pw_find at hfind
  split at hfind
  · rename_i q
    obtain ⟨hg, rfl⟩ := pm_bif hfind
    obtain ⟨g1, g2⟩ := Bool.and_eq_true_iff.mp hg
    have g2 := Nat.eq_of_beq_eq_true g2
    obtain ⟨i1, i2⟩ := hidx q List.mem_cons_self
    rw [g2] at i2
    exact vx_catch hown [] ⟨q.1, q.2.1, q.2.2.1, q.2.2.2⟩ [] htab (fun z hz => nomatch hz) (pw_cov g1) i1 i2 hcast hcell hv hcl kk
  · rename_i q r
    obtain ⟨i1, i2⟩ := hidx q List.mem_cons_self
    obtain ⟨j1, j2⟩ := hidx r (List.mem_cons_of_mem _ List.mem_cons_self)
    cases hg : ((Nat.ble q.1 pc && Nat.blt pc q.2.1) && Nat.beq (pw_cx q.2.2.2) x) with
    | true =>
      rw [hg] at hfind
      cases hfind
      obtain ⟨g1, g2⟩ := Bool.and_eq_true_iff.mp hg
      have g2 := Nat.eq_of_beq_eq_true g2
      rw [g2] at i2
      exact vx_catch hown [] ⟨q.1, q.2.1, q.2.2.1, q.2.2.2⟩ [⟨r.1, r.2.1, r.2.2.1, r.2.2.2⟩] htab (fun z hz => nomatch hz) (pw_cov g1) i1 i2 hcast hcell hv hcl kk
    | false =>
      rw [hg] at hfind
      obtain ⟨hg2, rfl⟩ := pm_bif hfind
      obtain ⟨g1, g2⟩ := Bool.and_eq_true_iff.mp hg2
      obtain ⟨g3, g4⟩ := Bool.and_eq_true_iff.mp g1
      obtain ⟨g5, g6⟩ := Bool.and_eq_true_iff.mp g2
      have g3 := Nat.eq_of_beq_eq_true g3
      have g5 := Nat.eq_of_beq_eq_true g5
      rw [g3] at i2
      rw [g5] at j2
      have hx0 : x ≠ 0 := fun z => by subst z; cases g6
      refine vx_catch hown [⟨q.1, q.2.1, q.2.2.1, q.2.2.2⟩] ⟨r.1, r.2.1, r.2.2.1, r.2.2.2⟩ [] htab (fun z hz => ?_) (pw_cov g4) j1 j2 hcast hcell hv hcl kk
      have hz := List.mem_singleton.mp hz
      subst hz
      refine Or.inr ⟨i1, pt_xn 0, i2, ?_⟩
      match x, hx, hx0 with
      | 0, _, h0 => exact absurd rfl h0
      | 1, _, _ => exact hN1
      | 2, _, _ => exact hN2
  · cases hfind
set_option maxRecDepth 100000 in
theorem pw_chk : (List.range 6).all (fun k => plainFor (pm_nm (174 + k)) && (decide (pm_ow (174 + k) = 12) && (decide ((pm_nm (174 + k)).cls = "QuietCheckerLaw") && (decide (pm_rt (174 + k) = some .int) && (pw_hh (174 + k)).all (fun q => decide (q.2.2.2 ∈ ([13, 15, 21] : List Nat))))))) = true := by decide +kernel
theorem pm_callV_t {idx ow mj : Nat} {sw : List (Nat × Nat)} {S as2 S1 : List Value} (h8 : pm_call (.invokevirtual idx) sw ow S = some (mj, as2, S1)) : ∃ a, pm_iv ow idx = some mj ∧ pm_sc mj = false ∧ as2 = .ref a :: (S.take (pm_np mj)).reverse ∧ S = S.take (pm_np mj) ++ .ref a :: S1 ∧ (S.take (pm_np mj)).length = pm_np mj ∧ pm_rcv sw a (pm_ow mj) = true ∧ pm_cats S1 ≤ 8 ∧ (lg_sl as2).length ≤ pm_mx mj := by
  unfold pm_call at h8
  dsimp only at h8
  split at h8
  · rename_i mj0 hiv
    split at h8
    · rename_i _ a S2 hdr
      obtain ⟨hg, he⟩ := pm_bif h8
      cases he
      obtain ⟨g1, g2⟩ := Bool.and_eq_true_iff.mp hg
      obtain ⟨g3, g4⟩ := Bool.and_eq_true_iff.mp g2
      obtain ⟨g5, g6⟩ := Bool.and_eq_true_iff.mp g4
      obtain ⟨g7, g8⟩ := Bool.and_eq_true_iff.mp g6
      refine ⟨a, hiv, pm_not g1, rfl, ?_, Nat.eq_of_beq_eq_true g3, g5, Nat.le_of_ble_eq_true g7, Nat.le_of_ble_eq_true g8⟩
      have := (List.take_append_drop (pm_np mj) S).symm
      rw [hdr] at this
      exact this
    · cases h8
  · cases h8
section PW2
variable {l : Launch} {rho : Nat → Nat} {D : va_G} {cy : Nat → ClassId} {sw : List (Nat × Nat)}
/-- before a call that may throw -/
def pt_B (rho : Nat → Nat) (D : va_G) (cy : Nat → ClassId) (sw : List (Nat × Nat)) (h : pm_H) (sz : Nat) (U : State) : Prop := pm_B rho D cy sw h sz U ∧ pt_K (va_A (pm_W cy rho sw h) sz) U U.heap
theorem pt_blind {as : List Value} {h : pm_H} {sz : Nat} : FrameBlind (va_Pc (pm_cS rho as) (pt_B rho D cy sw h sz)) := by
  intro a U g mk q
  obtain ⟨h1, ⟨h2, h3, h4, h5, h6⟩, h7⟩ := q
  exact ⟨h1, ⟨h2, h3, va_K.moved (u := U) (U := U.calling g mk a) (Vm.Alike.refl U.vm) h4, h5, pm_KS.same (u := U) (U := U.calling g mk a) rfl h6⟩, pt_K.moved (u := U) (U := U.calling g mk a) (Vm.Alike.refl U.vm) h7⟩
/-- the world before an inner call -/
theorem pt_pre {s : State} {H : Heap} {locs : List Loc} {A : Nat → Prop} {h : pm_H} (hK : va_K D pm_cl (pm_tys cy) s) (hP : va_P D pm_cl (pm_W cy rho sw h) H) (hD : va_D A (pm_W cy rho sw h)) (hS : va_S A s.heap H locs) (hA : ∀ q, s.heap.size ≤ q → A q) (hKS : pm_KS rho A s s.heap) (hPT : pt_K A s s.heap) : (∀ q, va_A (pm_W cy rho sw h) H.size q → A q) ∧ ∀ U : State, U.heap = H → s.WarmedH U.vm → pt_B rho D cy sw h H.size U := by
  have hFc : ∀ q, va_A (pm_W cy rho sw h) H.size q → A q := by
    intro q hq
    rcases hq with ⟨k, en, hk⟩ | hq
    · exact hD.2 k _ hk
    · exact hA q (Nat.le_trans hS.1 hq)
  refine ⟨hFc, fun U hU hW => ⟨⟨by rw [hU], by rw [hU]; exact hP, va_K.moved hW.alike hK, hD.weaken (fun _ _ _ _ => trivial), ?_⟩, ?_⟩⟩
  · rw [hU]
    exact pm_KS.moved hW ((hKS.kept hS.2.1).narrow hFc)
  · rw [hU]
    exact pt_K.moved hW.alike ((hPT.kept hS.2.1).narrow hFc)
theorem pm_callB_of {R : Room} {s : State} {args : Array Value} {Ts : List Cond} {own idx mj : Nat} {rm : Room} {mc ms : Nat} (hts : ∀ w ∈ Ts, w.before args s = true) (hG : ∀ w ∈ pm_G, w ∈ Ts) (hiv : pm_iv own idx = some mj) (hrc : rm.cells = mc) (hrs : rm.slots = ms) (hR : rm.frames + 1 ≤ R.frames ∧ 39 + rm.locals ≤ R.locals) : mj < 173 ∧ CallB R s args (pm_on own) idx (pm_nm mj) (pm_by mj) (pm_mx mj) (pm_rt mj) (pm_ws mj) rm mc ms (pm_np mj) := by
  obtain ⟨hj, hlink⟩ := pm_iv_ok hiv
  have hcls : (pm_nm mj).cls = pm_on (pm_ow mj) := of_decide_eq_true (List.all_eq_true.mp pm_mC mj (List.mem_range.mpr hj))
  obtain ⟨n1, n2⟩ := Bool.and_eq_true_iff.mp (List.all_eq_true.mp pm_mG mj (List.mem_range.mpr hj))
  have hini : Cond.initialized (pm_on (pm_ow mj)) ∈ pm_G := pm_mem (List.all_eq_true.mp pm_mB mj (List.mem_range.mpr hj))
  have hmx : pm_mx mj ≤ 20 := Nat.le_of_ble_eq_true (List.all_eq_true.mp pm_mF mj (List.mem_range.mpr hj))
  exact ⟨hj, callB_of (pm_np mj) hts (pp_goodIn hG hj) rfl hrc hrs (by rw [hcls]; exact hts _ (hG _ hini)) (hts _ (hG _ hlink)) ⟨of_decide_eq_true n1, of_decide_eq_true n2, of_decide_eq_true (List.all_eq_true.mp pm_mD mj (List.mem_range.mpr hj))⟩ ⟨hR.1, by omega⟩⟩
set_option maxHeartbeats 4000000 in
theorem pw_met (hinj : ∀ a b, pm_kc a = true → pm_kc b = true → rho a = rho b → a = b) (hprim : ∀ (mj : Nat) (as : List Value) (v : Value), pm_prim mj as = some v → ∀ (h : pm_H) (sz : Nat), Met l (pm_nm mj) (pm_ws mj) (pm_rm 4) (va_Pc (pm_cS rho as) (pm_B rho D cy sw h sz)) (pm_Q rho D cy sw h sz (some v) h) 0 0 (va_A (pm_W cy rho sw h) sz)) (htr : l.stackTraces = false) {n d mi : Nat} {as : List Value} {h h' : pm_H} {k : Int32} (hrun : pw_run sw n d mi as h = some (k, h')) (hm1 : 174 ≤ mi) (hm2 : mi < 180) (hd : 6 ≤ d) (hfit : (lg_sl as).length ≤ pm_mx mi) (sz : Nat) :
    Met l (pm_nm mi) (pw_ws mi) (pn_rm (d + 1) 1 6) (va_Pc (pm_cS rho as) (pt_B rho D cy sw h sz)) (pm_Q rho D cy sw h sz (some (.int k)) h') 1 6 (va_A (pm_W cy rho sw h) sz) := by
  have hck := List.all_eq_true.mp pw_chk (mi - 174) (List.mem_range.mpr (by omega))
  rw [show 174 + (mi - 174) = mi by omega] at hck
  simp only [Bool.and_eq_true, decide_eq_true_eq] at hck
  obtain ⟨hfor, how, hcls, hrt, hhx⟩ := hck
  refine pw_ofW (cc := pm_by mi) (maxL := pm_mx mi) (ret := some .int) (hh := pw_hh mi) hfor rfl ?_
  intro p e s m args below meth c s₁ B hml hv
  obtain ⟨rfl, ⟨rfl, hP, hK, hD0, hKS⟩, hPT⟩ := hv
  have hownL : s.vm.findClass "QuietCheckerLaw" = some m.cls := by
    rw [← hcls]
    exact findClass_of_methodNamed B.named
  have hown : s.vm.findClass (pm_on (pm_ow mi)) = some m.cls := by
    rw [how]
    exact hownL
  have hts := atoms_spec (ws := pw_ws mi) B.pre
  have hG : ∀ w ∈ pm_G, w ∈ pw_ws mi := fun w hw => List.mem_cons_of_mem _ hw
  have htab := vx_table (x := pm_nm mi) B (hts _ List.mem_cons_self)
  have hl := lv_entry (pm_cS rho as) (n := pm_mx mi) (by rw [pm_sl_len]; exact hfit)
  rw [pm_args_c] at hl
  have hA : ∀ q, s.heap.size ≤ q → va_A (pm_W cy rho sw h) s.heap.size q := fun q hq => Or.inr hq
  have hb0 := B.bytes
  have hx0 := B.exec
  unfold pw_run at hrun
  split at hrun
  · rename_i pc L S h1 hpp
    rw [lg_entry_eq]
    refine pp_body hinj hprim (pw_stop mi) n d mi 0 (lv_args 0 as) [] h pc L S h1 hpp p e _ s m _ below meth c s.heap [] _ (va_A (pm_W cy rho sw h) s.heap.size) _ 0 0 (pw_ws mi) hx0 hb0 hml hown hts hG ⟨Nat.le_succ _, by show d * 40 ≤ (d + 1) * 40; omega, Nat.zero_le _, Nat.zero_le _⟩ hK hP hD0.self va_S.rf hA hKS hl ?_
    intro H1 locs1 ls1 hP1 hD1 hS1 hl1
    split at hrun
    · rename_i idx hfd
      split at hrun
      · rename_i mj as2 S1 hcl
        obtain ⟨ho5, hrun⟩ := pm_bifR hrun
        have ho5 := Nat.eq_of_beq_eq_true ho5
        obtain ⟨a, hiv, hsc, rfl, hS0, hnp, hrc, hcat, hfit2⟩ := pm_callV_t hcl
        obtain ⟨hj, cb⟩ := pm_callB_of (R := pn_rm (d + 1) 1 6) (rm := pn_rm d 1 6) (mc := 1) (ms := 6) hts hG hiv rfl rfl ⟨Nat.le_refl _, by show 39 + d * 40 ≤ (d + 1) * 40; omega⟩
        obtain ⟨hFc, hpre⟩ := pt_pre hK hP1 hD1 hS1 hA hKS hPT
        have hA1 := pm_mA_at hj
        unfold pm_mA at hA1
        rw [hsc] at hA1
        obtain ⟨w1, w2⟩ := Bool.and_eq_true_iff.mp hA1
        obtain ⟨len, hdec, hlen⟩ := pm_decode hfd
        have hlen := hlen.resolve_left (fun z => by cases z)
        subst hlen
        cases hpt : pt_run sw n d mj (.ref a :: (S.take (pm_np mj)).reverse) h1 with
        | none => rw [hpt] at hrun; cases hrun
        | some r =>
          rw [hpt] at hrun
          have hM := pt_met (l := l) (rho := rho) (D := D) (cy := cy) hinj hprim htr hpt hj ho5 hd hfit2 H1.size
          have hrn := vx_runV (C := pm_on (pm_ow mj)) (b := rho a) (As := pm_cS rho (S.take (pm_np mj)).reverse) (rest := pm_cS rho S1) (g := F0 m pc ls1 (pm_cS rho S)) (p := p) (e := e) (below := below) (meth := meth) (locs := locs1) (cells := 0) (slots := 0) (R := pn_rm (d + 1) 1 6) (H := H1) ⟨hx0, hb0, hml, hown, hts⟩ hM ⟨cb, hts _ (hG _ (pm_mem w1)), hts _ (hG _ (pm_mem w2))⟩ ⟨pt_blind, pm_rcv_t hrc hK hP1 hS1 hKS, fun U hU hW => ⟨rfl, hpre U hU hW⟩⟩ rfl (by
            unfold pm_cS
            rw [List.length_map, List.length_reverse]
            exact hnp) hl1.1 (by
            show pm_cS rho S = (pm_cS rho (S.take (pm_np mj)).reverse).reverse ++ .ref (rho a) :: pm_cS rho S1
            rw [pm_cS_rev, List.reverse_reverse]
            calc pm_cS rho S = pm_cS rho (S.take (pm_np mj) ++ .ref a :: S1) := by rw [← hS0]
              _ = _ := pm_cS_app rho _ _) (lv_room (by rw [pm_cats_c]; exact hcat)) hdec ⟨Nat.le_refl _, Nat.le_refl _⟩
          refine pw_callk (A1 := va_A (pm_W cy rho sw h1) H1.size) hrn ?_ ?_ hS1 (fun q _ z => hFc q z) hFc ?_ ?_
          · intro st v t hq
            cases r with
            | inl r => exact hq.2.2
            | inr r => exact hq.elim
          · intro E st t hq
            cases r with
            | inl r => exact hq.elim
            | inr r => exact hq.2.2
          · intro E ce q9 st t locs2 hq hS2 hce hcv hcl9
            cases r with
            | inl r => exact hq.elim
            | inr r =>
              obtain ⟨x, h2⟩ := r
              obtain ⟨rfl, ⟨hP2, hD2⟩, hF2⟩ := hq
              dsimp only at hrun hP2 hD2
              split at hrun
              · rename_i hpc hfi
                obtain ⟨k0, hk0, hke⟩ := Option.map_eq_some_iff.mp hrun
                cases hke
                have hx3 : x < 3 := by
                  unfold pt_run at hpt
                  split at hpt
                  · unfold pt_end at hpt
                    split at hpt
                    · split at hpt
                      · rename_i x0 ic0 hxf
                        obtain ⟨-, he⟩ := pm_bif hpt
                        cases he
                        have w1 := List.all_eq_true.mp pt_w1 _ (pt_xf_mem hxf)
                        dsimp only at w1
                        exact pm_blt (Bool.and_eq_true_iff.mp (Bool.and_eq_true_iff.mp w1).2).1
                      · cases hpt
                    · split at hpt <;> cases hpt
                    · cases hpt
                  · cases hpt
                refine pw_catch hownL htab hfi hx3 (fun q hq => ?_) (va_tabs rfl rfl (hPT.2.2.1 _ (pt_ex_cast hx3))) hPT.2.2.2.1 hPT.2.2.2.2 hce hcv hcl9 ?_
                · have hq2 : q.2.2.2 ∈ ([13, 15, 21] : List Nat) := of_decide_eq_true (List.all_eq_true.mp hhx q hq)
                  refine ⟨fun z => by rw [z] at hq2; revert hq2; decide, ?_⟩
                  exact hts _ (hG _ (List.mem_filter.mpr ⟨of_decide_eq_true (List.all_eq_true.mp pw_lk _ hq2), rfl⟩))
                · unfold pw_hk at hk0
                  split at hk0
                  · rename_i j hfa
                    obtain ⟨hjm, hk0⟩ := pm_bifR hk0
                    split at hk0
                    · rename_i k1 hfb
                      obtain ⟨hfc, hk0⟩ := pm_bifR hk0
                      cases hk0
                      obtain ⟨n1, d1, e1⟩ := pm_decode hfa
                      obtain ⟨n2, d2, e2⟩ := pm_decode hfb
                      obtain ⟨n3, d3, e3⟩ := pm_decode (of_decide_eq_true hfc)
                      have e1 := e1.resolve_left (fun z => by cases z)
                      have e2 := e2.resolve_left (fun z => by cases z)
                      have e3 := e3.resolve_left (fun z => by cases z)
                      subst e1; subst e2; subst e3
                      refine lv_astore hx0 hb0 d1 hl1 (pm_blt hjm) rfl (fun ls2 hl2 => ?_)
                      refine lv_iconst hx0 hb0 d2 rfl ?_
                      exact W.iret hx0 hb0 B.returns (fun t' ht hW => ⟨rfl, ⟨by rw [ht]; exact hP2, hD2.weaken (fun _ q _ z => hFc q.1 z)⟩, hS2.F ht⟩) hS2.2.2 d3 B.notSynchronized
                    · cases hk0
                  · rename_i j hfa
                    obtain ⟨hjm, hk0⟩ := pm_bifR hk0
                    split at hk0
                    · rename_i k1 hfb
                      obtain ⟨hfc, hk0⟩ := pm_bifR hk0
                      cases hk0
                      obtain ⟨n1, d1, e1⟩ := pm_decode hfa
                      obtain ⟨n2, d2, e2⟩ := pm_decode hfb
                      obtain ⟨n3, d3, e3⟩ := pm_decode (of_decide_eq_true hfc)
                      have e1 := e1.resolve_left (fun z => by cases z)
                      have e2 := e2.resolve_left (fun z => by cases z)
                      have e3 := e3.resolve_left (fun z => by cases z)
                      subst e1; subst e2; subst e3
                      refine lv_astore_n hx0 hb0 d1 rfl hl1 (pm_blt hjm) rfl (fun ls2 hl2 => ?_)
                      refine lv_iconst hx0 hb0 d2 rfl ?_
                      exact W.iret hx0 hb0 B.returns (fun t' ht hW => ⟨rfl, ⟨by rw [ht]; exact hP2, hD2.weaken (fun _ q _ z => hFc q.1 z)⟩, hS2.F ht⟩) hS2.2.2 d3 B.notSynchronized
                    · cases hk0
                  · cases hk0
              · cases hrun
          · intro st t v0 locs2 hq hS2
            cases r with
            | inr r => exact hq.elim
            | inl r =>
              obtain ⟨v, h2⟩ := r
              obtain ⟨hv0, ⟨hP2, hD2⟩, hF2⟩ := hq
              have hv0 := Outcome.returned.inj hv0
              subst hv0
              dsimp only at hrun hP2 hD2 ⊢
              split at hrun
              · rename_i pc3 L3 S3 h3 hpp3
                rw [pm_toList_c, ← pm_cS_app]
                refine pp_body hinj hprim (pw_stop mi) n d mi (pc + 3) L (v.toList ++ S1) h2 pc3 L3 S3 h3 hpp3 p e _ s m _ below meth c t.heap locs2 ls1 (va_A (pm_W cy rho sw h) s.heap.size) _ 1 6 (pw_ws mi) hx0 hb0 hml hown hts hG ⟨Nat.le_succ _, by show d * 40 ≤ (d + 1) * 40; omega, Nat.le_refl _, Nat.le_refl _⟩ hK hP2 (hD2.weaken (fun _ q _ z => hFc q.1 z)) hS2 hA hKS hl1 ?_
                intro H3 locs3 ls3 hP3 hD3 hS3 hl3
                split at hrun
                · rename_i hfd3
                  split at hrun
                  · cases hrun
                    obtain ⟨len3, hdec3, hlen3⟩ := pm_decode hfd3
                    have hlen3 := hlen3.resolve_left (fun z => by cases z)
                    subst hlen3
                    exact W.iret hx0 hb0 B.returns (fun t' ht hW => ⟨rfl, ⟨by rw [ht]; exact hP3, hD3⟩, hS3.F ht⟩) hS3.2.2 hdec3 B.notSynchronized
                  · cases hrun
                · cases hrun
              · cases hrun
      · cases hrun
    · cases hrun
  · cases hrun
end PW2
