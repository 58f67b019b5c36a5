/-! The pure machine's steps without heap are the machine's -/
/-- an instruction's length; 0 where it depends on its place (switches) -/
def pm_ln (i : Instr) : Nat := match i with
  | .bipush _ => 2
  | .iload _ => 2
  | .lload _ => 2
  | .aload _ => 2
  | .istore _ => 2
  | .lstore _ => 2
  | .astore _ => 2
  | .iinc _ _ => 3
  | .sipush _ => 3
  | .ldc2_w _ => 3
  | .getfield _ => 3
  | .putfield _ => 3
  | .getstatic _ => 3
  | .invokevirtual _ => 3
  | .invokestatic _ => 3
  | .invokespecial _ => 3
  | .goto _ => 3
  | .ifCond _ _ => 3
  | .if_icmp _ _ => 3
  | .if_acmp _ _ => 3
  | .new _ => 3
  | .newarray _ => 2
  | .anewarray _ => 3
  | .checkcast _ => 3
  | .instanceof _ => 3
  | .ldc _ => 2
  | .ldc_w _ => 3
  | .ifnull _ => 3
  | .ifnonnull _ => 3
  | .invokeinterface _ _ => 5
  | .putstatic _ => 3
  | .tableswitch _ _ _ _ => 0
  | .lookupswitch _ _ => 0
  | _ => 1
section PM1
variable {p : Program} {l : Launch} {e : Env} {R : Room} {s : State} {m : MethodId} {args : Array Value} {below : List Frame} {meth : Method} {c : Code} {H : Heap} {locs : List Loc} {cells slots : Nat} {Q : State → Prop} {cc : ByteArray} {pc : Nat} {ls : Array Slot} {rho : Nat → Nat} {n : Nat} {L : pm_L} {S : List Value}
theorem pm_push_snd (hx : p.tables.exec = Jvm.exec) (hb : c.code = cc) {i : Instr} {v : Value} (hdg : decode cc pc = .ok (i, pm_ln i)) (hl : lv_has ls n (pm_cL rho L)) (h : pm_push i L = some v)
    (k : W p l e R s m args below meth c H locs cells slots Q (F0 m (pc + pm_ln i) ls (pm_cS rho (v :: S)))) : W p l e R s m args below meth c H locs cells slots Q (F0 m pc ls (pm_cS rho S)) := by
  unfold pm_push at h
  split at h
  · cases h; exact lv_iconst hx hb hdg rfl k
  · cases h; exact lv_bipush hx hb hdg rfl k
  · cases h; exact lv_sipush hx hb hdg rfl k
  · cases h; exact lv_lconst hx hb hdg rfl k
  · obtain ⟨x, h1, rfl⟩ := Option.map_eq_some_iff.mp h; exact lv_iload_n hx hb hdg rfl (pm_lvI hl h1) k
  · obtain ⟨x, h1, rfl⟩ := Option.map_eq_some_iff.mp h; exact lv_iload hx hb hdg (pm_lvI hl h1) k
  · obtain ⟨x, h1, rfl⟩ := Option.map_eq_some_iff.mp h; exact lv_lload_n hx hb hdg rfl (pm_lvL hl h1) k
  · obtain ⟨x, h1, rfl⟩ := Option.map_eq_some_iff.mp h; exact lv_lload hx hb hdg (pm_lvL hl h1) k
  · obtain ⟨x, h1, rfl⟩ := Option.map_eq_some_iff.mp h; exact lv_aload_n hx hb hdg rfl (pm_lvR hl h1) k
  · obtain ⟨x, h1, rfl⟩ := Option.map_eq_some_iff.mp h; exact lv_aload hx hb hdg (pm_lvR hl h1) k
  · cases h
theorem pm_bif {α : Type} {b : Bool} {x y : α} (h : (bif b then some x else none) = some y) : b = true ∧ x = y := by
  cases b with
  | true => exact ⟨rfl, Option.some.inj h⟩
  | false => cases h
theorem pm_blt {a b : Nat} (h : Nat.blt a b = true) : a < b := Nat.lt_of_succ_le (Nat.le_of_ble_eq_true h)
theorem pm_sto_snd (hx : p.tables.exec = Jvm.exec) (hb : c.code = cc) {i : Instr} {L' : pm_L} {S' : List Value} (hdg : decode cc pc = .ok (i, pm_ln i)) (hl : lv_has ls n (pm_cL rho L)) (h : pm_sto i n L S = some (L', S'))
    (k : ∀ ls' : Array Slot, lv_has ls' n (pm_cL rho L') → W p l e R s m args below meth c H locs cells slots Q (F0 m (pc + pm_ln i) ls' (pm_cS rho S'))) : W p l e R s m args below meth c H locs cells slots Q (F0 m pc ls (pm_cS rho S)) := by
  unfold pm_sto at h
  split at h
  · split at h
    · obtain ⟨h1, h2⟩ := pm_bif h; cases h2
      exact lv_istore_n hx hb hdg rfl hl (pm_blt h1) (pm_st1_c rho L _ (.int _)) k
    · cases h
  · split at h
    · obtain ⟨h1, h2⟩ := pm_bif h; cases h2
      exact lv_istore hx hb hdg hl (pm_blt h1) (pm_st1_c rho L _ (.int _)) k
    · cases h
  · split at h
    · obtain ⟨h1, h2⟩ := pm_bif h; cases h2
      exact lv_astore_n hx hb hdg rfl hl (pm_blt h1) (pm_st1_c rho L _ (.ref _)) k
    · cases h
  · split at h
    · obtain ⟨h1, h2⟩ := pm_bif h; cases h2
      exact lv_astore hx hb hdg hl (pm_blt h1) (pm_st1_c rho L _ (.ref _)) k
    · cases h
  · split at h
    · obtain ⟨h1, h2⟩ := pm_bif h; cases h2
      exact lv_lstore_n hx hb hdg rfl hl (pm_blt h1) (pm_st2_c rho L _ (.long _)) k
    · cases h
  · split at h
    · obtain ⟨h1, h2⟩ := pm_bif h; cases h2
      exact lv_lstore hx hb hdg hl (pm_blt h1) (pm_st2_c rho L _ (.long _)) k
    · cases h
  · split at h
    · rename_i k0 n0 _ x hx0
      obtain ⟨h1, h2⟩ := pm_bif h; cases h2
      have hm : (k0, pm_cv rho (.int x)) ∈ pm_cL rho L := by
        unfold pm_atI at hx0
        split at hx0
        · rename_i y ey
          cases hx0
          exact List.mem_map.mpr ⟨(k0, .int x), pm_at_mem ey, rfl⟩
        · cases hx0
      obtain ⟨j, hj⟩ := List.getElem?_of_mem hm
      exact lv_iinc (k := j) hx hb hdg hl hj rfl (pm_blt h1) (pm_st1_c rho L _ (.int _)) k
    · cases h
  · cases h
theorem pm_ari_snd (hx : p.tables.exec = Jvm.exec) (hb : c.code = cc) {i : Instr} {S' : List Value} (hdg : decode cc pc = .ok (i, pm_ln i)) (h : pm_ari i S = some S')
    (k : W p l e R s m args below meth c H locs cells slots Q (F0 m (pc + pm_ln i) ls (pm_cS rho S'))) : W p l e R s m args below meth c H locs cells slots Q (F0 m pc ls (pm_cS rho S)) := by
  unfold pm_ari at h
  split at h
  · split at h
    · cases h; exact lv_iadd hx hb hdg k
    · cases h
  · split at h
    · cases h; exact lv_isub hx hb hdg k
    · cases h
  · split at h
    · cases h; exact lv_imul hx hb hdg k
    · cases h
  · split at h
    · split at h
      · cases h
      · rename_i hne
        cases h; exact lv_idiv hx hb hdg hne k
    · cases h
  · split at h
    · split at h
      · cases h
      · rename_i hne
        cases h; exact lv_irem hx hb hdg hne k
    · cases h
  · split at h
    · cases h; exact lv_iand hx hb hdg k
    · cases h
  · split at h
    · cases h; exact lv_ior hx hb hdg k
    · cases h
  · split at h
    · cases h; exact lv_ixor hx hb hdg k
    · cases h
  · split at h
    · cases h; exact lv_ineg hx hb hdg k
    · cases h
  · split at h
    · cases h; exact lv_ishl hx hb hdg k
    · cases h
  · split at h
    · cases h; exact lv_ishr hx hb hdg k
    · cases h
  · split at h
    · cases h; exact lv_iushr hx hb hdg rfl k
    · cases h
  · split at h
    · cases h; exact lv_dup hx hb hdg rfl k
    · cases h; exact lv_dup hx hb hdg rfl k
    · cases h
  · split at h
    · cases h; exact lv_dup_x1 hx hb hdg rfl rfl k
    · cases h; exact lv_dup_x1 hx hb hdg rfl rfl k
    · cases h
  · split at h
    · cases h; exact lv_dup2_11 hx hb hdg rfl rfl k
    · cases h
  · split at h
    · cases h; exact lv_pop (va := .int _) hx hb hdg rfl k
    · cases h; exact lv_pop (va := .ref _) hx hb hdg rfl k
    · cases h
  · split at h
    · cases h; exact lv_i2l hx hb hdg rfl k
    · cases h
  · split at h
    · cases h; exact lv_l2i hx hb hdg rfl k
    · cases h
  · split at h
    · cases h; exact lv_i2c hx hb hdg rfl k
    · cases h
  · split at h
    · cases h; exact lv_ladd hx hb hdg k
    · cases h
  · split at h
    · cases h; exact lv_lsub hx hb hdg k
    · cases h
  · split at h
    · cases h; exact lv_lmul hx hb hdg k
    · cases h
  · split at h
    · cases h; exact lv_land hx hb hdg k
    · cases h
  · split at h
    · cases h; exact lv_lor hx hb hdg k
    · cases h
  · split at h
    · cases h; exact lv_lshl hx hb hdg rfl k
    · cases h
  · split at h
    · cases h; exact lv_lshr hx hb hdg rfl k
    · cases h
  · split at h
    · cases h; exact lv_lushr hx hb hdg rfl k
    · cases h
  · split at h
    · cases h; exact W.lcmp hx hb hdg k
    · cases h
  · cases h
end PM1
