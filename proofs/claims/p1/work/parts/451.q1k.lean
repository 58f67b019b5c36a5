/-- k steps without a call -/
def pm_go (sw : List (Nat × Nat)) (mi : Nat) : Nat → Nat → pm_L → List Value → pm_H → Option (Nat × pm_L × List Value × pm_H)
  | 0, pc, L, S, h => some (pc, L, S, h)
  | k + 1, pc, L, S, h => match pm_step sw mi pc L S h with
    | some (.inl (pc', L', S', h')) => pm_go sw mi k pc' L' S' h'
    | _ => none
theorem px_g : ∀ {k d mi pc : Nat} {L : pm_L} {S : List Value} {h : pm_H} {Q : Option Value → pm_H → Prop} {pc' : Nat} {L' : pm_L} {S' : List Value} {h' : pm_H}, pm_go pm_swA mi k pc L S h = some (pc', L', S', h') → px d mi pc' L' S' h' Q → px d mi pc L S h Q := by
  intro k
  induction k with
  | zero =>
    intro d mi pc L S h Q pc' L' S' h' hs q
    unfold pm_go at hs
    cases hs
    exact q
  | succ k ih =>
    intro d mi pc L S h Q pc' L' S' h' hs q
    unfold pm_go at hs
    split at hs
    · rename_i pc1 L1 S1 h1 e
      exact px_st e (ih hs q)
    · cases hs
def q1_k1 (I : Nat → Nat → Int32) (J : Nat → Nat → Int64) (R : Nat → Nat → Option Nat) : pm_H := pm_setI (va_up I 39 (fun _ => 0), J, va_up R 39 (pg_f pg_lM 39)) 39 0 0
def q1_k2 (I : Nat → Nat → Int32) (J : Nat → Nat → Int64) (R : Nat → Nat → Option Nat) : pm_H := pm_setI (pm_setI (q1_k1 I J R) 39 4 0) 39 3 0
def q1_k3 (I : Nat → Nat → Int32) (J : Nat → Nat → Int64) (R : Nat → Nat → Option Nat) : pm_H := pm_setI (pm_setI (q1_k2 I J R) 39 38 0) 39 20 0
def q1_k4 (I : Nat → Nat → Int32) (J : Nat → Nat → Int64) (R : Nat → Nat → Option Nat) : pm_H := pm_setI (pm_setI (q1_k3 I J R) 39 19 0) 39 18 0
def q1_k5 (I : Nat → Nat → Int32) (J : Nat → Nat → Int64) (R : Nat → Nat → Option Nat) : pm_H := pm_setI (pm_setI (q1_k4 I J R) 39 17 0) 39 16 0
def q1_k6 (I : Nat → Nat → Int32) (J : Nat → Nat → Int64) (R : Nat → Nat → Option Nat) : pm_H := pm_setI (pm_setI (q1_k5 I J R) 39 15 0) 39 14 0
def q1_k7 (I : Nat → Nat → Int32) (J : Nat → Nat → Int64) (R : Nat → Nat → Option Nat) : pm_H := pm_setI (pm_setI (q1_k6 I J R) 39 13 0) 39 10 0
def q1_k8 (I : Nat → Nat → Int32) (J : Nat → Nat → Int64) (R : Nat → Nat → Option Nat) : pm_H := pm_setI (pm_setI (q1_k7 I J R) 39 5 0) 39 11 (-1)
def q1_k9 (I : Nat → Nat → Int32) (J : Nat → Nat → Int64) (R : Nat → Nat → Option Nat) : pm_H := pm_setI (q1_k8 I J R) 39 12 0
def q1_k10 (I : Nat → Nat → Int32) (J : Nat → Nat → Int64) (R : Nat → Nat → Option Nat) : pm_H := pm_setI (q1_k9 I J R) 39 37 0
def q1_k11 (I : Nat → Nat → Int32) (J : Nat → Nat → Int64) (R : Nat → Nat → Option Nat) : pm_H := pm_setI (pm_setI (q1_k10 I J R) 39 44 0) 39 58 0
def q1_k12 (I : Nat → Nat → Int32) (J : Nat → Nat → Int64) (R : Nat → Nat → Option Nat) : pm_H := pm_setI (q1_k11 I J R) 39 7 0
def q1_k13 (I : Nat → Nat → Int32) (J : Nat → Nat → Int64) (R : Nat → Nat → Option Nat) : pm_H := pm_setI (q1_k12 I J R) 39 6 12
def q1_k14 (I : Nat → Nat → Int32) (J : Nat → Nat → Int64) (R : Nat → Nat → Option Nat) : pm_H := pm_setI (q1_k13 I J R) 39 8 0
def q1_k15 (I : Nat → Nat → Int32) (J : Nat → Nat → Int64) (R : Nat → Nat → Option Nat) : pm_H := pm_setI (q1_k14 I J R) 58 0 15
def q1_k16 (I : Nat → Nat → Int32) (J : Nat → Nat → Int64) (R : Nat → Nat → Option Nat) : pm_H := pm_setI (q1_k15 I J R) 59 0 0
def q1_k17 (I : Nat → Nat → Int32) (J : Nat → Nat → Int64) (R : Nat → Nat → Option Nat) : pm_H := pm_setI (q1_k16 I J R) 60 0 0
def q1_k18 (I : Nat → Nat → Int32) (J : Nat → Nat → Int64) (R : Nat → Nat → Option Nat) : pm_H := pm_setI (q1_k17 I J R) 39 38 1
def q1_k19 (I : Nat → Nat → Int32) (J : Nat → Nat → Int64) (R : Nat → Nat → Option Nat) : pm_H := pm_setI (q1_k18 I J R) 69 0 1
def q1_k20 (I : Nat → Nat → Int32) (J : Nat → Nat → Int64) (R : Nat → Nat → Option Nat) : pm_H := pm_setI (q1_k19 I J R) 70 0 0
def q1_k21 (I : Nat → Nat → Int32) (J : Nat → Nat → Int64) (R : Nat → Nat → Option Nat) : pm_H := pm_setI (q1_k20 I J R) 71 0 0
def q1_k22 (I : Nat → Nat → Int32) (J : Nat → Nat → Int64) (R : Nat → Nat → Option Nat) : pm_H := pm_setI (q1_k21 I J R) 72 0 0
def q1_k23 (I : Nat → Nat → Int32) (J : Nat → Nat → Int64) (R : Nat → Nat → Option Nat) : pm_H := pm_setI (q1_k22 I J R) 73 0 0
def q1_k24 (I : Nat → Nat → Int32) (J : Nat → Nat → Int64) (R : Nat → Nat → Option Nat) : pm_H := pm_setI (q1_k23 I J R) 39 58 1
def q1_k25 (I : Nat → Nat → Int32) (J : Nat → Nat → Int64) (R : Nat → Nat → Option Nat) : pm_H := pm_setI (q1_k24 I J R) 39 58 (1 - 1)
def q1_k26 (I : Nat → Nat → Int32) (J : Nat → Nat → Int64) (R : Nat → Nat → Option Nat) : pm_H := pm_setI (q1_k25 I J R) 59 0 1
def q1_k27 (I : Nat → Nat → Int32) (J : Nat → Nat → Int64) (R : Nat → Nat → Option Nat) : pm_H := pm_setI (q1_k26 I J R) 69 0 2
def q1_k28 (I : Nat → Nat → Int32) (J : Nat → Nat → Int64) (R : Nat → Nat → Option Nat) : pm_H := pm_setI (q1_k27 I J R) 70 0 0
def q1_k29 (I : Nat → Nat → Int32) (J : Nat → Nat → Int64) (R : Nat → Nat → Option Nat) : pm_H := pm_setI (q1_k28 I J R) 71 0 0
def q1_k30 (I : Nat → Nat → Int32) (J : Nat → Nat → Int64) (R : Nat → Nat → Option Nat) : pm_H := pm_setI (q1_k29 I J R) 72 0 0
def q1_k31 (I : Nat → Nat → Int32) (J : Nat → Nat → Int64) (R : Nat → Nat → Option Nat) : pm_H := pm_setI (q1_k30 I J R) 73 0 0
def q1_k32 (I : Nat → Nat → Int32) (J : Nat → Nat → Int64) (R : Nat → Nat → Option Nat) : pm_H := pm_setI (q1_k31 I J R) 39 58 1
def q1_k33 (I : Nat → Nat → Int32) (J : Nat → Nat → Int64) (R : Nat → Nat → Option Nat) : pm_H := pm_setI (q1_k32 I J R) 69 1 5
def q1_k34 (I : Nat → Nat → Int32) (J : Nat → Nat → Int64) (R : Nat → Nat → Option Nat) : pm_H := pm_setI (q1_k33 I J R) 70 1 0
def q1_k35 (I : Nat → Nat → Int32) (J : Nat → Nat → Int64) (R : Nat → Nat → Option Nat) : pm_H := pm_setI (q1_k34 I J R) 71 1 0
def q1_k36 (I : Nat → Nat → Int32) (J : Nat → Nat → Int64) (R : Nat → Nat → Option Nat) : pm_H := pm_setI (q1_k35 I J R) 72 1 0
def q1_k37 (I : Nat → Nat → Int32) (J : Nat → Nat → Int64) (R : Nat → Nat → Option Nat) : pm_H := pm_setI (q1_k36 I J R) 73 1 0
def q1_k38 (I : Nat → Nat → Int32) (J : Nat → Nat → Int64) (R : Nat → Nat → Option Nat) : pm_H := pm_setI (q1_k37 I J R) 39 58 2
def q1_k39 (I : Nat → Nat → Int32) (J : Nat → Nat → Int64) (R : Nat → Nat → Option Nat) : pm_H := pm_setI (q1_k38 I J R) 39 58 (2 - 1)
def q1_k40 (I : Nat → Nat → Int32) (J : Nat → Nat → Int64) (R : Nat → Nat → Option Nat) : pm_H := pm_setI (q1_k39 I J R) 39 58 ((2 - 1) - 1)
def q1_k41 (I : Nat → Nat → Int32) (J : Nat → Nat → Int64) (R : Nat → Nat → Option Nat) : pm_H := pm_setI (q1_k40 I J R) 58 1 16
def q1_k42 (I : Nat → Nat → Int32) (J : Nat → Nat → Int64) (R : Nat → Nat → Option Nat) : pm_H := pm_setI (q1_k41 I J R) 59 1 0
def q1_k43 (I : Nat → Nat → Int32) (J : Nat → Nat → Int64) (R : Nat → Nat → Option Nat) : pm_H := pm_setI (q1_k42 I J R) 60 1 0
def q1_k44 (I : Nat → Nat → Int32) (J : Nat → Nat → Int64) (R : Nat → Nat → Option Nat) : pm_H := pm_setI (q1_k43 I J R) 39 38 2
def q1_k45 (I : Nat → Nat → Int32) (J : Nat → Nat → Int64) (R : Nat → Nat → Option Nat) : pm_H := pm_setI (q1_k44 I J R) 39 43 1
set_option maxRecDepth 100000 in
theorem q1_ks1 {I : Nat → Nat → Int32} {J : Nat → Nat → Int64} {R : Nat → Nat → Option Nat} : pm_go pm_swA 48 4 0 [(0, .ref 39)] [] (va_up I 39 (fun _ => 0), J, va_up R 39 (pg_f pg_lM 39)) = some (6, [(0, .ref 39)], [.int 0], (q1_k1 I J R)) := rfl
set_option maxRecDepth 100000 in
theorem q1_ks2 {I : Nat → Nat → Int32} {J : Nat → Nat → Int64} {R : Nat → Nat → Option Nat} : pm_go pm_swA 48 4 6 [(0, .ref 39)] [.int 0] (q1_k1 I J R) = some (12, [(1, .int 0), (0, .ref 39)], [.int 0, .int 0], (q1_k1 I J R)) := rfl
set_option maxRecDepth 100000 in
theorem q1_ks3 {I : Nat → Nat → Int32} {J : Nat → Nat → Int64} {R : Nat → Nat → Option Nat} : pm_go pm_swA 48 4 12 [(1, .int 0), (0, .ref 39)] [.int 0, .int 0] (q1_k1 I J R) = some (38, [(1, .int 0), (0, .ref 39)], [.int 0, .ref 39], (q1_k1 I J R)) := rfl
set_option maxRecDepth 100000 in
theorem q1_ks4 {I : Nat → Nat → Int32} {J : Nat → Nat → Int64} {R : Nat → Nat → Option Nat} : pm_go pm_swA 48 4 38 [(1, .int 0), (0, .ref 39)] [.int 0, .ref 39] (q1_k1 I J R) = some (46, [(1, .int 0), (0, .ref 39)], [], (q1_k2 I J R)) := rfl
set_option maxRecDepth 100000 in
theorem q1_ks5 {I : Nat → Nat → Int32} {J : Nat → Nat → Int64} {R : Nat → Nat → Option Nat} : pm_go pm_swA 48 4 46 [(1, .int 0), (0, .ref 39)] [] (q1_k2 I J R) = some (50, [(1, .int 0), (0, .ref 39)], [.ref 39, .ref 39, .ref 39, .ref 39], (q1_k2 I J R)) := rfl
set_option maxRecDepth 100000 in
theorem q1_ks6 {I : Nat → Nat → Int32} {J : Nat → Nat → Int64} {R : Nat → Nat → Option Nat} : pm_go pm_swA 48 4 50 [(1, .int 0), (0, .ref 39)] [.ref 39, .ref 39, .ref 39, .ref 39] (q1_k2 I J R) = some (54, [(1, .int 0), (0, .ref 39)], [.ref 39, .ref 39, .ref 39, .ref 39, .ref 39, .ref 39, .ref 39, .ref 39], (q1_k2 I J R)) := rfl
set_option maxRecDepth 100000 in
theorem q1_ks7 {I : Nat → Nat → Int32} {J : Nat → Nat → Int64} {R : Nat → Nat → Option Nat} : pm_go pm_swA 48 4 54 [(1, .int 0), (0, .ref 39)] [.ref 39, .ref 39, .ref 39, .ref 39, .ref 39, .ref 39, .ref 39, .ref 39] (q1_k2 I J R) = some (58, [(1, .int 0), (0, .ref 39)], [.int 0, .ref 39, .ref 39, .ref 39, .ref 39, .ref 39, .ref 39, .ref 39, .ref 39, .ref 39, .ref 39, .ref 39], (q1_k2 I J R)) := rfl
set_option maxRecDepth 100000 in
theorem q1_ks8 {I : Nat → Nat → Int32} {J : Nat → Nat → Int64} {R : Nat → Nat → Option Nat} : pm_go pm_swA 48 4 58 [(1, .int 0), (0, .ref 39)] [.int 0, .ref 39, .ref 39, .ref 39, .ref 39, .ref 39, .ref 39, .ref 39, .ref 39, .ref 39, .ref 39, .ref 39] (q1_k2 I J R) = some (66, [(1, .int 0), (0, .ref 39)], [.int 0, .ref 39, .ref 39, .ref 39, .ref 39, .ref 39, .ref 39, .ref 39, .ref 39, .ref 39], (q1_k3 I J R)) := rfl
set_option maxRecDepth 100000 in
theorem q1_ks9 {I : Nat → Nat → Int32} {J : Nat → Nat → Int64} {R : Nat → Nat → Option Nat} : pm_go pm_swA 48 4 66 [(1, .int 0), (0, .ref 39)] [.int 0, .ref 39, .ref 39, .ref 39, .ref 39, .ref 39, .ref 39, .ref 39, .ref 39, .ref 39] (q1_k3 I J R) = some (74, [(1, .int 0), (0, .ref 39)], [.int 0, .ref 39, .ref 39, .ref 39, .ref 39, .ref 39, .ref 39, .ref 39], (q1_k4 I J R)) := rfl
set_option maxRecDepth 100000 in
theorem q1_ks10 {I : Nat → Nat → Int32} {J : Nat → Nat → Int64} {R : Nat → Nat → Option Nat} : pm_go pm_swA 48 4 74 [(1, .int 0), (0, .ref 39)] [.int 0, .ref 39, .ref 39, .ref 39, .ref 39, .ref 39, .ref 39, .ref 39] (q1_k4 I J R) = some (82, [(1, .int 0), (0, .ref 39)], [.int 0, .ref 39, .ref 39, .ref 39, .ref 39, .ref 39], (q1_k5 I J R)) := rfl
set_option maxRecDepth 100000 in
theorem q1_ks11 {I : Nat → Nat → Int32} {J : Nat → Nat → Int64} {R : Nat → Nat → Option Nat} : pm_go pm_swA 48 4 82 [(1, .int 0), (0, .ref 39)] [.int 0, .ref 39, .ref 39, .ref 39, .ref 39, .ref 39] (q1_k5 I J R) = some (90, [(1, .int 0), (0, .ref 39)], [.int 0, .ref 39, .ref 39, .ref 39], (q1_k6 I J R)) := rfl
set_option maxRecDepth 100000 in
theorem q1_ks12 {I : Nat → Nat → Int32} {J : Nat → Nat → Int64} {R : Nat → Nat → Option Nat} : pm_go pm_swA 48 4 90 [(1, .int 0), (0, .ref 39)] [.int 0, .ref 39, .ref 39, .ref 39] (q1_k6 I J R) = some (98, [(1, .int 0), (0, .ref 39)], [.int 0, .ref 39], (q1_k7 I J R)) := rfl
set_option maxRecDepth 100000 in
theorem q1_ks13 {I : Nat → Nat → Int32} {J : Nat → Nat → Int64} {R : Nat → Nat → Option Nat} : pm_go pm_swA 48 4 98 [(1, .int 0), (0, .ref 39)] [.int 0, .ref 39] (q1_k7 I J R) = some (106, [(1, .int 0), (0, .ref 39)], [], (q1_k8 I J R)) := rfl
set_option maxRecDepth 100000 in
theorem q1_ks14 {I : Nat → Nat → Int32} {J : Nat → Nat → Int64} {R : Nat → Nat → Option Nat} : pm_go pm_swA 48 4 106 [(1, .int 0), (0, .ref 39)] [] (q1_k8 I J R) = some (112, [(1, .int 0), (0, .ref 39)], [.ref 39], (q1_k9 I J R)) := rfl
set_option maxRecDepth 100000 in
theorem q1_ks15 {I : Nat → Nat → Int32} {J : Nat → Nat → Int64} {R : Nat → Nat → Option Nat} : pm_go pm_swA 48 4 112 [(1, .int 0), (0, .ref 39)] [.ref 39] (q1_k9 I J R) = some (118, [(1, .int 0), (0, .ref 39)], [.int 0, .ref 39], (q1_k10 I J R)) := rfl
set_option maxRecDepth 100000 in
theorem q1_ks16 {I : Nat → Nat → Int32} {J : Nat → Nat → Int64} {R : Nat → Nat → Option Nat} : pm_go pm_swA 48 4 118 [(1, .int 0), (0, .ref 39)] [.int 0, .ref 39] (q1_k10 I J R) = some (126, [(1, .int 0), (0, .ref 39)], [], (q1_k11 I J R)) := rfl
set_option maxRecDepth 100000 in
theorem q1_ks17 {I : Nat → Nat → Int32} {J : Nat → Nat → Int64} {R : Nat → Nat → Option Nat} : pm_go pm_swA 48 1 126 [(1, .int 0), (0, .ref 39)] [] (q1_k11 I J R) = some (127, [(1, .int 0), (0, .ref 39)], [.ref 39], (q1_k11 I J R)) := rfl
set_option maxRecDepth 100000 in
theorem q1_ks18 {I : Nat → Nat → Int32} {J : Nat → Nat → Int64} {R : Nat → Nat → Option Nat} : pm_go pm_swA 6 4 0 [(0, .ref 39)] [] (q1_k11 I J R) = some (6, [(1, .int 0), (0, .ref 39)], [.int 0], (q1_k11 I J R)) := rfl
set_option maxRecDepth 100000 in
theorem q1_ks19 {I : Nat → Nat → Int32} {J : Nat → Nat → Int64} {R : Nat → Nat → Option Nat} : pm_go pm_swA 6 4 6 [(1, .int 0), (0, .ref 39)] [.int 0] (q1_k11 I J R) = some (111, [(1, .int 0), (0, .ref 39)], [.ref 39], (q1_k11 I J R)) := rfl
set_option maxRecDepth 100000 in
theorem q1_ks20 {I : Nat → Nat → Int32} {J : Nat → Nat → Int64} {R : Nat → Nat → Option Nat} : pm_go pm_swA 6 4 111 [(1, .int 0), (0, .ref 39)] [.ref 39] (q1_k11 I J R) = some (119, [(1, .int 0), (0, .ref 39)], [.ref 39], (q1_k12 I J R)) := rfl
set_option maxRecDepth 100000 in
theorem q1_ks21 {I : Nat → Nat → Int32} {J : Nat → Nat → Int64} {R : Nat → Nat → Option Nat} : pm_go pm_swA 6 2 119 [(1, .int 0), (0, .ref 39)] [.ref 39] (q1_k12 I J R) = some (123, [(1, .int 0), (0, .ref 39)], [.int 0, .ref 39], (q1_k12 I J R)) := rfl
set_option maxRecDepth 100000 in
theorem q1_ks22 {I : Nat → Nat → Int32} {J : Nat → Nat → Int64} {R : Nat → Nat → Option Nat} : pm_go pm_swA 5 4 0 [(0, .ref 39), (1, .int 0)] [] (q1_k12 I J R) = some (17, [(0, .ref 39), (1, .int 0)], [], (q1_k12 I J R)) := rfl
set_option maxRecDepth 100000 in
theorem q1_ks23 {I : Nat → Nat → Int32} {J : Nat → Nat → Int64} {R : Nat → Nat → Option Nat} : pm_go pm_swA 5 1 17 [(0, .ref 39), (1, .int 0)] [] (q1_k12 I J R) = some (18, [(0, .ref 39), (1, .int 0)], [.int 0], (q1_k12 I J R)) := rfl
set_option maxRecDepth 100000 in
theorem q1_ks24 {I : Nat → Nat → Int32} {J : Nat → Nat → Int64} {R : Nat → Nat → Option Nat} : pm_go pm_swA 6 4 126 [(1, .int 0), (0, .ref 39)] [.int 0] (q1_k12 I J R) = some (132, [(2, .int 0), (1, .int 0), (0, .ref 39)], [.ref 39, .int 0], (q1_k12 I J R)) := rfl
set_option maxRecDepth 100000 in
theorem q1_ks25 {I : Nat → Nat → Int32} {J : Nat → Nat → Int64} {R : Nat → Nat → Option Nat} : pm_go pm_swA 6 4 132 [(2, .int 0), (1, .int 0), (0, .ref 39)] [.ref 39, .int 0] (q1_k12 I J R) = some (141, [(2, .int 0), (1, .int 0), (0, .ref 39)], [.int 12, .ref 39], (q1_k12 I J R)) := rfl
set_option maxRecDepth 100000 in
theorem q1_ks26 {I : Nat → Nat → Int32} {J : Nat → Nat → Int64} {R : Nat → Nat → Option Nat} : pm_go pm_swA 6 4 141 [(2, .int 0), (1, .int 0), (0, .ref 39)] [.int 12, .ref 39] (q1_k12 I J R) = some (182, [(2, .int 0), (1, .int 0), (0, .ref 39)], [.ref 39, .ref 39], (q1_k13 I J R)) := rfl
set_option maxRecDepth 100000 in
theorem q1_ks27 {I : Nat → Nat → Int32} {J : Nat → Nat → Int64} {R : Nat → Nat → Option Nat} : pm_go pm_swA 6 2 182 [(2, .int 0), (1, .int 0), (0, .ref 39)] [.ref 39, .ref 39] (q1_k13 I J R) = some (188, [(2, .int 0), (1, .int 0), (0, .ref 39)], [], (q1_k14 I J R)) := rfl
set_option maxRecDepth 100000 in
theorem q1_ks28 {I : Nat → Nat → Int32} {J : Nat → Nat → Int64} {R : Nat → Nat → Option Nat} : pm_go pm_swA 48 4 130 [(1, .int 0), (0, .ref 39)] [] (q1_k14 I J R) = some (135, [(1, .int 0), (0, .ref 39)], [.int 0, .int 0, .int 15, .ref 39], (q1_k14 I J R)) := rfl
set_option maxRecDepth 100000 in
theorem q1_ks29 {I : Nat → Nat → Int32} {J : Nat → Nat → Int64} {R : Nat → Nat → Option Nat} : pm_go pm_swA 16 4 0 [(0, .ref 39), (1, .int 15), (2, .int 0), (3, .int 0)] [] (q1_k14 I J R) = some (8, [(0, .ref 39), (1, .int 15), (2, .int 0), (3, .int 0)], [.int 0, .ref 58], (q1_k14 I J R)) := rfl
set_option maxRecDepth 100000 in
theorem q1_ks30 {I : Nat → Nat → Int32} {J : Nat → Nat → Int64} {R : Nat → Nat → Option Nat} : pm_go pm_swA 16 1 8 [(0, .ref 39), (1, .int 15), (2, .int 0), (3, .int 0)] [.int 0, .ref 58] (q1_k14 I J R) = some (9, [(0, .ref 39), (1, .int 15), (2, .int 0), (3, .int 0)], [.int 15, .int 0, .ref 58], (q1_k14 I J R)) := rfl
set_option maxRecDepth 100000 in
theorem q1_ks31 {I : Nat → Nat → Int32} {J : Nat → Nat → Int64} {R : Nat → Nat → Option Nat} : pm_go pm_swA 16 4 9 [(0, .ref 39), (1, .int 15), (2, .int 0), (3, .int 0)] [.int 15, .int 0, .ref 58] (q1_k14 I J R) = some (15, [(0, .ref 39), (1, .int 15), (2, .int 0), (3, .int 0)], [.ref 39, .ref 59], (q1_k15 I J R)) := rfl
set_option maxRecDepth 100000 in
theorem q1_ks32 {I : Nat → Nat → Int32} {J : Nat → Nat → Int64} {R : Nat → Nat → Option Nat} : pm_go pm_swA 16 2 15 [(0, .ref 39), (1, .int 15), (2, .int 0), (3, .int 0)] [.ref 39, .ref 59] (q1_k15 I J R) = some (19, [(0, .ref 39), (1, .int 15), (2, .int 0), (3, .int 0)], [.int 0, .int 0, .ref 59], (q1_k15 I J R)) := rfl
set_option maxRecDepth 100000 in
theorem q1_ks33 {I : Nat → Nat → Int32} {J : Nat → Nat → Int64} {R : Nat → Nat → Option Nat} : pm_go pm_swA 16 4 19 [(0, .ref 39), (1, .int 15), (2, .int 0), (3, .int 0)] [.int 0, .int 0, .ref 59] (q1_k15 I J R) = some (25, [(0, .ref 39), (1, .int 15), (2, .int 0), (3, .int 0)], [.ref 39, .ref 60], (q1_k16 I J R)) := rfl
set_option maxRecDepth 100000 in
theorem q1_ks34 {I : Nat → Nat → Int32} {J : Nat → Nat → Int64} {R : Nat → Nat → Option Nat} : pm_go pm_swA 16 2 25 [(0, .ref 39), (1, .int 15), (2, .int 0), (3, .int 0)] [.ref 39, .ref 60] (q1_k16 I J R) = some (29, [(0, .ref 39), (1, .int 15), (2, .int 0), (3, .int 0)], [.int 0, .int 0, .ref 60], (q1_k16 I J R)) := rfl
set_option maxRecDepth 100000 in
theorem q1_ks35 {I : Nat → Nat → Int32} {J : Nat → Nat → Int64} {R : Nat → Nat → Option Nat} : pm_go pm_swA 16 4 29 [(0, .ref 39), (1, .int 15), (2, .int 0), (3, .int 0)] [.int 0, .int 0, .ref 60] (q1_k16 I J R) = some (35, [(0, .ref 39), (1, .int 15), (2, .int 0), (3, .int 0)], [.int 0, .ref 39], (q1_k17 I J R)) := rfl
set_option maxRecDepth 100000 in
theorem q1_ks36 {I : Nat → Nat → Int32} {J : Nat → Nat → Int64} {R : Nat → Nat → Option Nat} : pm_go pm_swA 16 3 35 [(0, .ref 39), (1, .int 15), (2, .int 0), (3, .int 0)] [.int 0, .ref 39] (q1_k17 I J R) = some (40, [(0, .ref 39), (1, .int 15), (2, .int 0), (3, .int 0)], [], (q1_k18 I J R)) := rfl
set_option maxRecDepth 100000 in
theorem q1_ks37 {I : Nat → Nat → Int32} {J : Nat → Nat → Int64} {R : Nat → Nat → Option Nat} : pm_go pm_swA 48 2 138 [(1, .int 0), (0, .ref 39)] [] (q1_k18 I J R) = some (140, [(1, .int 0), (0, .ref 39)], [.int 1, .ref 39], (q1_k18 I J R)) := rfl
set_option maxRecDepth 100000 in
theorem q1_ks38 {I : Nat → Nat → Int32} {J : Nat → Nat → Int64} {R : Nat → Nat → Option Nat} : pm_go pm_swA 22 4 0 [(0, .ref 39), (1, .int 1)] [] (q1_k18 I J R) = some (4, [(0, .ref 39), (1, .int 1)], [.int 0, .int 0, .int 1, .ref 39], (q1_k18 I J R)) := rfl
set_option maxRecDepth 100000 in
theorem q1_ks39 {I : Nat → Nat → Int32} {J : Nat → Nat → Int64} {R : Nat → Nat → Option Nat} : pm_go pm_swA 22 2 4 [(0, .ref 39), (1, .int 1)] [.int 0, .int 0, .int 1, .ref 39] (q1_k18 I J R) = some (6, [(0, .ref 39), (1, .int 1)], [.int 0, .int 0, .int 0, .int 0, .int 1, .ref 39], (q1_k18 I J R)) := rfl
set_option maxRecDepth 100000 in
theorem q1_ks40 {I : Nat → Nat → Int32} {J : Nat → Nat → Int64} {R : Nat → Nat → Option Nat} : pm_go pm_swA 21 4 0 [(0, .ref 39), (1, .int 1), (2, .int 0), (3, .int 0), (4, .int 0), (5, .int 0)] [] (q1_k18 I J R) = some (8, [(0, .ref 39), (1, .int 1), (2, .int 0), (3, .int 0), (4, .int 0), (5, .int 0)], [.int 0, .ref 69], (q1_k18 I J R)) := rfl
set_option maxRecDepth 100000 in
theorem q1_ks41 {I : Nat → Nat → Int32} {J : Nat → Nat → Int64} {R : Nat → Nat → Option Nat} : pm_go pm_swA 21 1 8 [(0, .ref 39), (1, .int 1), (2, .int 0), (3, .int 0), (4, .int 0), (5, .int 0)] [.int 0, .ref 69] (q1_k18 I J R) = some (9, [(0, .ref 39), (1, .int 1), (2, .int 0), (3, .int 0), (4, .int 0), (5, .int 0)], [.int 1, .int 0, .ref 69], (q1_k18 I J R)) := rfl
set_option maxRecDepth 100000 in
theorem q1_ks42 {I : Nat → Nat → Int32} {J : Nat → Nat → Int64} {R : Nat → Nat → Option Nat} : pm_go pm_swA 21 4 9 [(0, .ref 39), (1, .int 1), (2, .int 0), (3, .int 0), (4, .int 0), (5, .int 0)] [.int 1, .int 0, .ref 69] (q1_k18 I J R) = some (15, [(0, .ref 39), (1, .int 1), (2, .int 0), (3, .int 0), (4, .int 0), (5, .int 0)], [.ref 39, .ref 70], (q1_k19 I J R)) := rfl
set_option maxRecDepth 100000 in
theorem q1_ks43 {I : Nat → Nat → Int32} {J : Nat → Nat → Int64} {R : Nat → Nat → Option Nat} : pm_go pm_swA 21 2 15 [(0, .ref 39), (1, .int 1), (2, .int 0), (3, .int 0), (4, .int 0), (5, .int 0)] [.ref 39, .ref 70] (q1_k19 I J R) = some (19, [(0, .ref 39), (1, .int 1), (2, .int 0), (3, .int 0), (4, .int 0), (5, .int 0)], [.int 0, .int 0, .ref 70], (q1_k19 I J R)) := rfl
set_option maxRecDepth 100000 in
theorem q1_ks44 {I : Nat → Nat → Int32} {J : Nat → Nat → Int64} {R : Nat → Nat → Option Nat} : pm_go pm_swA 21 4 19 [(0, .ref 39), (1, .int 1), (2, .int 0), (3, .int 0), (4, .int 0), (5, .int 0)] [.int 0, .int 0, .ref 70] (q1_k19 I J R) = some (25, [(0, .ref 39), (1, .int 1), (2, .int 0), (3, .int 0), (4, .int 0), (5, .int 0)], [.ref 39, .ref 71], (q1_k20 I J R)) := rfl
set_option maxRecDepth 100000 in
theorem q1_ks45 {I : Nat → Nat → Int32} {J : Nat → Nat → Int64} {R : Nat → Nat → Option Nat} : pm_go pm_swA 21 2 25 [(0, .ref 39), (1, .int 1), (2, .int 0), (3, .int 0), (4, .int 0), (5, .int 0)] [.ref 39, .ref 71] (q1_k20 I J R) = some (29, [(0, .ref 39), (1, .int 1), (2, .int 0), (3, .int 0), (4, .int 0), (5, .int 0)], [.int 0, .int 0, .ref 71], (q1_k20 I J R)) := rfl
set_option maxRecDepth 100000 in
theorem q1_ks46 {I : Nat → Nat → Int32} {J : Nat → Nat → Int64} {R : Nat → Nat → Option Nat} : pm_go pm_swA 21 4 29 [(0, .ref 39), (1, .int 1), (2, .int 0), (3, .int 0), (4, .int 0), (5, .int 0)] [.int 0, .int 0, .ref 71] (q1_k20 I J R) = some (35, [(0, .ref 39), (1, .int 1), (2, .int 0), (3, .int 0), (4, .int 0), (5, .int 0)], [.ref 39, .ref 72], (q1_k21 I J R)) := rfl
set_option maxRecDepth 100000 in
theorem q1_ks47 {I : Nat → Nat → Int32} {J : Nat → Nat → Int64} {R : Nat → Nat → Option Nat} : pm_go pm_swA 21 2 35 [(0, .ref 39), (1, .int 1), (2, .int 0), (3, .int 0), (4, .int 0), (5, .int 0)] [.ref 39, .ref 72] (q1_k21 I J R) = some (40, [(0, .ref 39), (1, .int 1), (2, .int 0), (3, .int 0), (4, .int 0), (5, .int 0)], [.int 0, .int 0, .ref 72], (q1_k21 I J R)) := rfl
set_option maxRecDepth 100000 in
theorem q1_ks48 {I : Nat → Nat → Int32} {J : Nat → Nat → Int64} {R : Nat → Nat → Option Nat} : pm_go pm_swA 21 4 40 [(0, .ref 39), (1, .int 1), (2, .int 0), (3, .int 0), (4, .int 0), (5, .int 0)] [.int 0, .int 0, .ref 72] (q1_k21 I J R) = some (46, [(0, .ref 39), (1, .int 1), (2, .int 0), (3, .int 0), (4, .int 0), (5, .int 0)], [.ref 39, .ref 73], (q1_k22 I J R)) := rfl
set_option maxRecDepth 100000 in
theorem q1_ks49 {I : Nat → Nat → Int32} {J : Nat → Nat → Int64} {R : Nat → Nat → Option Nat} : pm_go pm_swA 21 2 46 [(0, .ref 39), (1, .int 1), (2, .int 0), (3, .int 0), (4, .int 0), (5, .int 0)] [.ref 39, .ref 73] (q1_k22 I J R) = some (51, [(0, .ref 39), (1, .int 1), (2, .int 0), (3, .int 0), (4, .int 0), (5, .int 0)], [.int 0, .int 0, .ref 73], (q1_k22 I J R)) := rfl
set_option maxRecDepth 100000 in
theorem q1_ks50 {I : Nat → Nat → Int32} {J : Nat → Nat → Int64} {R : Nat → Nat → Option Nat} : pm_go pm_swA 21 4 51 [(0, .ref 39), (1, .int 1), (2, .int 0), (3, .int 0), (4, .int 0), (5, .int 0)] [.int 0, .int 0, .ref 73] (q1_k22 I J R) = some (57, [(0, .ref 39), (1, .int 1), (2, .int 0), (3, .int 0), (4, .int 0), (5, .int 0)], [.int 0, .ref 39], (q1_k23 I J R)) := rfl
set_option maxRecDepth 100000 in
theorem q1_ks51 {I : Nat → Nat → Int32} {J : Nat → Nat → Int64} {R : Nat → Nat → Option Nat} : pm_go pm_swA 21 3 57 [(0, .ref 39), (1, .int 1), (2, .int 0), (3, .int 0), (4, .int 0), (5, .int 0)] [.int 0, .ref 39] (q1_k23 I J R) = some (62, [(0, .ref 39), (1, .int 1), (2, .int 0), (3, .int 0), (4, .int 0), (5, .int 0)], [], (q1_k24 I J R)) := rfl
set_option maxRecDepth 100000 in
theorem q1_ks52 {I : Nat → Nat → Int32} {J : Nat → Nat → Int64} {R : Nat → Nat → Option Nat} : pm_go pm_swA 48 1 143 [(1, .int 0), (0, .ref 39)] [] (q1_k24 I J R) = some (144, [(1, .int 0), (0, .ref 39)], [.ref 39], (q1_k24 I J R)) := rfl
set_option maxRecDepth 100000 in
theorem q1_ks53 {I : Nat → Nat → Int32} {J : Nat → Nat → Int64} {R : Nat → Nat → Option Nat} : pm_go pm_swA 23 4 0 [(0, .ref 39)] [] (q1_k24 I J R) = some (8, [(0, .ref 39)], [.ref 39], (q1_k24 I J R)) := rfl
set_option maxRecDepth 100000 in
theorem q1_ks54 {I : Nat → Nat → Int32} {J : Nat → Nat → Int64} {R : Nat → Nat → Option Nat} : pm_go pm_swA 23 4 8 [(0, .ref 39)] [.ref 39] (q1_k24 I J R) = some (16, [(0, .ref 39)], [.ref 39, .ref 39], (q1_k24 I J R)) := rfl
set_option maxRecDepth 100000 in
theorem q1_ks55 {I : Nat → Nat → Int32} {J : Nat → Nat → Int64} {R : Nat → Nat → Option Nat} : pm_go pm_swA 23 4 16 [(0, .ref 39)] [.ref 39, .ref 39] (q1_k24 I J R) = some (24, [(0, .ref 39)], [], (q1_k25 I J R)) := rfl
set_option maxRecDepth 100000 in
theorem q1_ks56 {I : Nat → Nat → Int32} {J : Nat → Nat → Int64} {R : Nat → Nat → Option Nat} : pm_go pm_swA 23 4 24 [(0, .ref 39)] [] (q1_k25 I J R) = some (32, [(0, .ref 39)], [.int (1 - 1), .ref 69], (q1_k25 I J R)) := rfl
set_option maxRecDepth 100000 in
theorem q1_ks57 {I : Nat → Nat → Int32} {J : Nat → Nat → Int64} {R : Nat → Nat → Option Nat} : pm_go pm_swA 23 4 32 [(0, .ref 39)] [.int (1 - 1), .ref 69] (q1_k25 I J R) = some (38, [(1, .int 1), (0, .ref 39)], [.ref 70], (q1_k25 I J R)) := rfl
set_option maxRecDepth 100000 in
theorem q1_ks58 {I : Nat → Nat → Int32} {J : Nat → Nat → Int64} {R : Nat → Nat → Option Nat} : pm_go pm_swA 23 2 38 [(1, .int 1), (0, .ref 39)] [.ref 70] (q1_k25 I J R) = some (42, [(1, .int 1), (0, .ref 39)], [.int (1 - 1), .ref 70], (q1_k25 I J R)) := rfl
set_option maxRecDepth 100000 in
theorem q1_ks59 {I : Nat → Nat → Int32} {J : Nat → Nat → Int64} {R : Nat → Nat → Option Nat} : pm_go pm_swA 23 4 42 [(1, .int 1), (0, .ref 39)] [.int (1 - 1), .ref 70] (q1_k25 I J R) = some (48, [(2, .int 0), (1, .int 1), (0, .ref 39)], [.ref 71], (q1_k25 I J R)) := rfl
set_option maxRecDepth 100000 in
theorem q1_ks60 {I : Nat → Nat → Int32} {J : Nat → Nat → Int64} {R : Nat → Nat → Option Nat} : pm_go pm_swA 23 2 48 [(2, .int 0), (1, .int 1), (0, .ref 39)] [.ref 71] (q1_k25 I J R) = some (52, [(2, .int 0), (1, .int 1), (0, .ref 39)], [.int (1 - 1), .ref 71], (q1_k25 I J R)) := rfl
set_option maxRecDepth 100000 in
theorem q1_ks61 {I : Nat → Nat → Int32} {J : Nat → Nat → Int64} {R : Nat → Nat → Option Nat} : pm_go pm_swA 23 4 52 [(2, .int 0), (1, .int 1), (0, .ref 39)] [.int (1 - 1), .ref 71] (q1_k25 I J R) = some (58, [(3, .int 0), (2, .int 0), (1, .int 1), (0, .ref 39)], [.ref 72], (q1_k25 I J R)) := rfl
set_option maxRecDepth 100000 in
theorem q1_ks62 {I : Nat → Nat → Int32} {J : Nat → Nat → Int64} {R : Nat → Nat → Option Nat} : pm_go pm_swA 23 2 58 [(3, .int 0), (2, .int 0), (1, .int 1), (0, .ref 39)] [.ref 72] (q1_k25 I J R) = some (62, [(3, .int 0), (2, .int 0), (1, .int 1), (0, .ref 39)], [.int (1 - 1), .ref 72], (q1_k25 I J R)) := rfl
set_option maxRecDepth 100000 in
theorem q1_ks63 {I : Nat → Nat → Int32} {J : Nat → Nat → Int64} {R : Nat → Nat → Option Nat} : pm_go pm_swA 23 4 62 [(3, .int 0), (2, .int 0), (1, .int 1), (0, .ref 39)] [.int (1 - 1), .ref 72] (q1_k25 I J R) = some (69, [(4, .int 0), (3, .int 0), (2, .int 0), (1, .int 1), (0, .ref 39)], [.ref 73], (q1_k25 I J R)) := rfl
set_option maxRecDepth 100000 in
theorem q1_ks64 {I : Nat → Nat → Int32} {J : Nat → Nat → Int64} {R : Nat → Nat → Option Nat} : pm_go pm_swA 23 2 69 [(4, .int 0), (3, .int 0), (2, .int 0), (1, .int 1), (0, .ref 39)] [.ref 73] (q1_k25 I J R) = some (73, [(4, .int 0), (3, .int 0), (2, .int 0), (1, .int 1), (0, .ref 39)], [.int (1 - 1), .ref 73], (q1_k25 I J R)) := rfl
set_option maxRecDepth 100000 in
theorem q1_ks65 {I : Nat → Nat → Int32} {J : Nat → Nat → Int64} {R : Nat → Nat → Option Nat} : pm_go pm_swA 23 4 73 [(4, .int 0), (3, .int 0), (2, .int 0), (1, .int 1), (0, .ref 39)] [.int (1 - 1), .ref 73] (q1_k25 I J R) = some (79, [(5, .int 0), (4, .int 0), (3, .int 0), (2, .int 0), (1, .int 1), (0, .ref 39)], [.int 13, .int 1], (q1_k25 I J R)) := rfl
set_option maxRecDepth 100000 in
theorem q1_ks66 {I : Nat → Nat → Int32} {J : Nat → Nat → Int64} {R : Nat → Nat → Option Nat} : pm_go pm_swA 23 4 79 [(5, .int 0), (4, .int 0), (3, .int 0), (2, .int 0), (1, .int 1), (0, .ref 39)] [.int 13, .int 1] (q1_k25 I J R) = some (85, [(5, .int 0), (4, .int 0), (3, .int 0), (2, .int 0), (1, .int 1), (0, .ref 39)], [.int 0, .int 1, .ref 39], (q1_k25 I J R)) := rfl
set_option maxRecDepth 100000 in
theorem q1_ks67 {I : Nat → Nat → Int32} {J : Nat → Nat → Int64} {R : Nat → Nat → Option Nat} : pm_go pm_swA 23 2 85 [(5, .int 0), (4, .int 0), (3, .int 0), (2, .int 0), (1, .int 1), (0, .ref 39)] [.int 0, .int 1, .ref 39] (q1_k25 I J R) = some (88, [(5, .int 0), (4, .int 0), (3, .int 0), (2, .int 0), (1, .int 1), (0, .ref 39)], [.int 0, .int 0, .int 0, .int 1, .ref 39], (q1_k25 I J R)) := rfl
set_option maxRecDepth 100000 in
theorem q1_ks68 {I : Nat → Nat → Int32} {J : Nat → Nat → Int64} {R : Nat → Nat → Option Nat} : pm_go pm_swA 24 1 0 [(0, .ref 39), (1, .int 1), (2, .int 0), (3, .int 0), (4, .int 0)] [] (q1_k25 I J R) = some (1, [(0, .ref 39), (1, .int 1), (2, .int 0), (3, .int 0), (4, .int 0)], [.int 1], (q1_k25 I J R)) := rfl
set_option maxRecDepth 100000 in
theorem q1_ks69 {I : Nat → Nat → Int32} {J : Nat → Nat → Int64} {R : Nat → Nat → Option Nat} : pm_go pm_swA 24 3 1 [(0, .ref 39), (1, .int 1), (2, .int 0), (3, .int 0), (4, .int 0)] [.int 1] (q1_k25 I J R) = some (62, [(0, .ref 39), (1, .int 1), (2, .int 0), (3, .int 0), (4, .int 0)], [.int 0, .ref 39], (q1_k25 I J R)) := rfl
set_option maxRecDepth 100000 in
theorem q1_ks70 {I : Nat → Nat → Int32} {J : Nat → Nat → Int64} {R : Nat → Nat → Option Nat} : pm_go pm_swA 26 4 0 [(0, .ref 39), (1, .int 0)] [] (q1_k25 I J R) = some (8, [(0, .ref 39), (1, .int 0)], [.ref 39], (q1_k25 I J R)) := rfl
set_option maxRecDepth 100000 in
theorem q1_ks71 {I : Nat → Nat → Int32} {J : Nat → Nat → Int64} {R : Nat → Nat → Option Nat} : pm_go pm_swA 26 4 8 [(0, .ref 39), (1, .int 0)] [.ref 39] (q1_k25 I J R) = some (16, [(0, .ref 39), (1, .int 0)], [.ref 39], (q1_k25 I J R)) := rfl
set_option maxRecDepth 100000 in
theorem q1_ks72 {I : Nat → Nat → Int32} {J : Nat → Nat → Int64} {R : Nat → Nat → Option Nat} : pm_go pm_swA 26 4 16 [(0, .ref 39), (1, .int 0)] [.ref 39] (q1_k25 I J R) = some (31, [(0, .ref 39), (1, .int 0)], [.ref 39], (q1_k25 I J R)) := rfl
set_option maxRecDepth 100000 in
theorem q1_ks73 {I : Nat → Nat → Int32} {J : Nat → Nat → Int64} {R : Nat → Nat → Option Nat} : pm_go pm_swA 26 4 31 [(0, .ref 39), (1, .int 0)] [.ref 39] (q1_k25 I J R) = some (42, [(0, .ref 39), (1, .int 0)], [.int 12], (q1_k25 I J R)) := rfl
set_option maxRecDepth 100000 in
theorem q1_ks74 {I : Nat → Nat → Int32} {J : Nat → Nat → Int64} {R : Nat → Nat → Option Nat} : pm_go pm_swA 26 4 42 [(0, .ref 39), (1, .int 0)] [.int 12] (q1_k25 I J R) = some (65, [(0, .ref 39), (1, .int 0)], [.ref 59], (q1_k25 I J R)) := rfl
set_option maxRecDepth 100000 in
theorem q1_ks75 {I : Nat → Nat → Int32} {J : Nat → Nat → Int64} {R : Nat → Nat → Option Nat} : pm_go pm_swA 26 3 65 [(0, .ref 39), (1, .int 0)] [.ref 59] (q1_k25 I J R) = some (70, [(0, .ref 39), (1, .int 0)], [.int 1, .int 0, .ref 59], (q1_k25 I J R)) := rfl
set_option maxRecDepth 100000 in
theorem q1_ks76 {I : Nat → Nat → Int32} {J : Nat → Nat → Int64} {R : Nat → Nat → Option Nat} : pm_go pm_swA 26 3 70 [(0, .ref 39), (1, .int 0)] [.int 1, .int 0, .ref 59] (q1_k25 I J R) = some (73, [(0, .ref 39), (1, .int 0)], [.int 2, .ref 39], (q1_k26 I J R)) := rfl
set_option maxRecDepth 100000 in
theorem q1_ks77 {I : Nat → Nat → Int32} {J : Nat → Nat → Int64} {R : Nat → Nat → Option Nat} : pm_go pm_swA 22 4 0 [(0, .ref 39), (1, .int 2)] [] (q1_k26 I J R) = some (4, [(0, .ref 39), (1, .int 2)], [.int 0, .int 0, .int 2, .ref 39], (q1_k26 I J R)) := rfl
set_option maxRecDepth 100000 in
theorem q1_ks78 {I : Nat → Nat → Int32} {J : Nat → Nat → Int64} {R : Nat → Nat → Option Nat} : pm_go pm_swA 22 2 4 [(0, .ref 39), (1, .int 2)] [.int 0, .int 0, .int 2, .ref 39] (q1_k26 I J R) = some (6, [(0, .ref 39), (1, .int 2)], [.int 0, .int 0, .int 0, .int 0, .int 2, .ref 39], (q1_k26 I J R)) := rfl
set_option maxRecDepth 100000 in
theorem q1_ks79 {I : Nat → Nat → Int32} {J : Nat → Nat → Int64} {R : Nat → Nat → Option Nat} : pm_go pm_swA 21 4 0 [(0, .ref 39), (1, .int 2), (2, .int 0), (3, .int 0), (4, .int 0), (5, .int 0)] [] (q1_k26 I J R) = some (8, [(0, .ref 39), (1, .int 2), (2, .int 0), (3, .int 0), (4, .int 0), (5, .int 0)], [.int (1 - 1), .ref 69], (q1_k26 I J R)) := rfl
set_option maxRecDepth 100000 in
theorem q1_ks80 {I : Nat → Nat → Int32} {J : Nat → Nat → Int64} {R : Nat → Nat → Option Nat} : pm_go pm_swA 21 1 8 [(0, .ref 39), (1, .int 2), (2, .int 0), (3, .int 0), (4, .int 0), (5, .int 0)] [.int (1 - 1), .ref 69] (q1_k26 I J R) = some (9, [(0, .ref 39), (1, .int 2), (2, .int 0), (3, .int 0), (4, .int 0), (5, .int 0)], [.int 2, .int (1 - 1), .ref 69], (q1_k26 I J R)) := rfl
set_option maxRecDepth 100000 in
theorem q1_ks81 {I : Nat → Nat → Int32} {J : Nat → Nat → Int64} {R : Nat → Nat → Option Nat} : pm_go pm_swA 21 4 9 [(0, .ref 39), (1, .int 2), (2, .int 0), (3, .int 0), (4, .int 0), (5, .int 0)] [.int 2, .int (1 - 1), .ref 69] (q1_k26 I J R) = some (15, [(0, .ref 39), (1, .int 2), (2, .int 0), (3, .int 0), (4, .int 0), (5, .int 0)], [.ref 39, .ref 70], (q1_k27 I J R)) := rfl
set_option maxRecDepth 100000 in
theorem q1_ks82 {I : Nat → Nat → Int32} {J : Nat → Nat → Int64} {R : Nat → Nat → Option Nat} : pm_go pm_swA 21 2 15 [(0, .ref 39), (1, .int 2), (2, .int 0), (3, .int 0), (4, .int 0), (5, .int 0)] [.ref 39, .ref 70] (q1_k27 I J R) = some (19, [(0, .ref 39), (1, .int 2), (2, .int 0), (3, .int 0), (4, .int 0), (5, .int 0)], [.int 0, .int (1 - 1), .ref 70], (q1_k27 I J R)) := rfl
set_option maxRecDepth 100000 in
theorem q1_ks83 {I : Nat → Nat → Int32} {J : Nat → Nat → Int64} {R : Nat → Nat → Option Nat} : pm_go pm_swA 21 4 19 [(0, .ref 39), (1, .int 2), (2, .int 0), (3, .int 0), (4, .int 0), (5, .int 0)] [.int 0, .int (1 - 1), .ref 70] (q1_k27 I J R) = some (25, [(0, .ref 39), (1, .int 2), (2, .int 0), (3, .int 0), (4, .int 0), (5, .int 0)], [.ref 39, .ref 71], (q1_k28 I J R)) := rfl
set_option maxRecDepth 100000 in
theorem q1_ks84 {I : Nat → Nat → Int32} {J : Nat → Nat → Int64} {R : Nat → Nat → Option Nat} : pm_go pm_swA 21 2 25 [(0, .ref 39), (1, .int 2), (2, .int 0), (3, .int 0), (4, .int 0), (5, .int 0)] [.ref 39, .ref 71] (q1_k28 I J R) = some (29, [(0, .ref 39), (1, .int 2), (2, .int 0), (3, .int 0), (4, .int 0), (5, .int 0)], [.int 0, .int (1 - 1), .ref 71], (q1_k28 I J R)) := rfl
set_option maxRecDepth 100000 in
theorem q1_ks85 {I : Nat → Nat → Int32} {J : Nat → Nat → Int64} {R : Nat → Nat → Option Nat} : pm_go pm_swA 21 4 29 [(0, .ref 39), (1, .int 2), (2, .int 0), (3, .int 0), (4, .int 0), (5, .int 0)] [.int 0, .int (1 - 1), .ref 71] (q1_k28 I J R) = some (35, [(0, .ref 39), (1, .int 2), (2, .int 0), (3, .int 0), (4, .int 0), (5, .int 0)], [.ref 39, .ref 72], (q1_k29 I J R)) := rfl
set_option maxRecDepth 100000 in
theorem q1_ks86 {I : Nat → Nat → Int32} {J : Nat → Nat → Int64} {R : Nat → Nat → Option Nat} : pm_go pm_swA 21 2 35 [(0, .ref 39), (1, .int 2), (2, .int 0), (3, .int 0), (4, .int 0), (5, .int 0)] [.ref 39, .ref 72] (q1_k29 I J R) = some (40, [(0, .ref 39), (1, .int 2), (2, .int 0), (3, .int 0), (4, .int 0), (5, .int 0)], [.int 0, .int (1 - 1), .ref 72], (q1_k29 I J R)) := rfl
set_option maxRecDepth 100000 in
theorem q1_ks87 {I : Nat → Nat → Int32} {J : Nat → Nat → Int64} {R : Nat → Nat → Option Nat} : pm_go pm_swA 21 4 40 [(0, .ref 39), (1, .int 2), (2, .int 0), (3, .int 0), (4, .int 0), (5, .int 0)] [.int 0, .int (1 - 1), .ref 72] (q1_k29 I J R) = some (46, [(0, .ref 39), (1, .int 2), (2, .int 0), (3, .int 0), (4, .int 0), (5, .int 0)], [.ref 39, .ref 73], (q1_k30 I J R)) := rfl
set_option maxRecDepth 100000 in
theorem q1_ks88 {I : Nat → Nat → Int32} {J : Nat → Nat → Int64} {R : Nat → Nat → Option Nat} : pm_go pm_swA 21 2 46 [(0, .ref 39), (1, .int 2), (2, .int 0), (3, .int 0), (4, .int 0), (5, .int 0)] [.ref 39, .ref 73] (q1_k30 I J R) = some (51, [(0, .ref 39), (1, .int 2), (2, .int 0), (3, .int 0), (4, .int 0), (5, .int 0)], [.int 0, .int (1 - 1), .ref 73], (q1_k30 I J R)) := rfl
set_option maxRecDepth 100000 in
theorem q1_ks89 {I : Nat → Nat → Int32} {J : Nat → Nat → Int64} {R : Nat → Nat → Option Nat} : pm_go pm_swA 21 4 51 [(0, .ref 39), (1, .int 2), (2, .int 0), (3, .int 0), (4, .int 0), (5, .int 0)] [.int 0, .int (1 - 1), .ref 73] (q1_k30 I J R) = some (57, [(0, .ref 39), (1, .int 2), (2, .int 0), (3, .int 0), (4, .int 0), (5, .int 0)], [.int (1 - 1), .ref 39], (q1_k31 I J R)) := rfl
set_option maxRecDepth 100000 in
theorem q1_ks90 {I : Nat → Nat → Int32} {J : Nat → Nat → Int64} {R : Nat → Nat → Option Nat} : pm_go pm_swA 21 3 57 [(0, .ref 39), (1, .int 2), (2, .int 0), (3, .int 0), (4, .int 0), (5, .int 0)] [.int (1 - 1), .ref 39] (q1_k31 I J R) = some (62, [(0, .ref 39), (1, .int 2), (2, .int 0), (3, .int 0), (4, .int 0), (5, .int 0)], [], (q1_k32 I J R)) := rfl
set_option maxRecDepth 100000 in
theorem q1_ks91 {I : Nat → Nat → Int32} {J : Nat → Nat → Int64} {R : Nat → Nat → Option Nat} : pm_go pm_swA 26 2 76 [(0, .ref 39), (1, .int 0)] [] (q1_k32 I J R) = some (78, [(0, .ref 39), (1, .int 0)], [.int 5, .ref 39], (q1_k32 I J R)) := rfl
set_option maxRecDepth 100000 in
theorem q1_ks92 {I : Nat → Nat → Int32} {J : Nat → Nat → Int64} {R : Nat → Nat → Option Nat} : pm_go pm_swA 22 4 0 [(0, .ref 39), (1, .int 5)] [] (q1_k32 I J R) = some (4, [(0, .ref 39), (1, .int 5)], [.int 0, .int 0, .int 5, .ref 39], (q1_k32 I J R)) := rfl
set_option maxRecDepth 100000 in
theorem q1_ks93 {I : Nat → Nat → Int32} {J : Nat → Nat → Int64} {R : Nat → Nat → Option Nat} : pm_go pm_swA 22 2 4 [(0, .ref 39), (1, .int 5)] [.int 0, .int 0, .int 5, .ref 39] (q1_k32 I J R) = some (6, [(0, .ref 39), (1, .int 5)], [.int 0, .int 0, .int 0, .int 0, .int 5, .ref 39], (q1_k32 I J R)) := rfl
set_option maxRecDepth 100000 in
theorem q1_ks94 {I : Nat → Nat → Int32} {J : Nat → Nat → Int64} {R : Nat → Nat → Option Nat} : pm_go pm_swA 21 4 0 [(0, .ref 39), (1, .int 5), (2, .int 0), (3, .int 0), (4, .int 0), (5, .int 0)] [] (q1_k32 I J R) = some (8, [(0, .ref 39), (1, .int 5), (2, .int 0), (3, .int 0), (4, .int 0), (5, .int 0)], [.int 1, .ref 69], (q1_k32 I J R)) := rfl
set_option maxRecDepth 100000 in
theorem q1_ks95 {I : Nat → Nat → Int32} {J : Nat → Nat → Int64} {R : Nat → Nat → Option Nat} : pm_go pm_swA 21 1 8 [(0, .ref 39), (1, .int 5), (2, .int 0), (3, .int 0), (4, .int 0), (5, .int 0)] [.int 1, .ref 69] (q1_k32 I J R) = some (9, [(0, .ref 39), (1, .int 5), (2, .int 0), (3, .int 0), (4, .int 0), (5, .int 0)], [.int 5, .int 1, .ref 69], (q1_k32 I J R)) := rfl
set_option maxRecDepth 100000 in
theorem q1_ks96 {I : Nat → Nat → Int32} {J : Nat → Nat → Int64} {R : Nat → Nat → Option Nat} : pm_go pm_swA 21 4 9 [(0, .ref 39), (1, .int 5), (2, .int 0), (3, .int 0), (4, .int 0), (5, .int 0)] [.int 5, .int 1, .ref 69] (q1_k32 I J R) = some (15, [(0, .ref 39), (1, .int 5), (2, .int 0), (3, .int 0), (4, .int 0), (5, .int 0)], [.ref 39, .ref 70], (q1_k33 I J R)) := rfl
set_option maxRecDepth 100000 in
theorem q1_ks97 {I : Nat → Nat → Int32} {J : Nat → Nat → Int64} {R : Nat → Nat → Option Nat} : pm_go pm_swA 21 2 15 [(0, .ref 39), (1, .int 5), (2, .int 0), (3, .int 0), (4, .int 0), (5, .int 0)] [.ref 39, .ref 70] (q1_k33 I J R) = some (19, [(0, .ref 39), (1, .int 5), (2, .int 0), (3, .int 0), (4, .int 0), (5, .int 0)], [.int 0, .int 1, .ref 70], (q1_k33 I J R)) := rfl
set_option maxRecDepth 100000 in
theorem q1_ks98 {I : Nat → Nat → Int32} {J : Nat → Nat → Int64} {R : Nat → Nat → Option Nat} : pm_go pm_swA 21 4 19 [(0, .ref 39), (1, .int 5), (2, .int 0), (3, .int 0), (4, .int 0), (5, .int 0)] [.int 0, .int 1, .ref 70] (q1_k33 I J R) = some (25, [(0, .ref 39), (1, .int 5), (2, .int 0), (3, .int 0), (4, .int 0), (5, .int 0)], [.ref 39, .ref 71], (q1_k34 I J R)) := rfl
set_option maxRecDepth 100000 in
theorem q1_ks99 {I : Nat → Nat → Int32} {J : Nat → Nat → Int64} {R : Nat → Nat → Option Nat} : pm_go pm_swA 21 2 25 [(0, .ref 39), (1, .int 5), (2, .int 0), (3, .int 0), (4, .int 0), (5, .int 0)] [.ref 39, .ref 71] (q1_k34 I J R) = some (29, [(0, .ref 39), (1, .int 5), (2, .int 0), (3, .int 0), (4, .int 0), (5, .int 0)], [.int 0, .int 1, .ref 71], (q1_k34 I J R)) := rfl
set_option maxRecDepth 100000 in
theorem q1_ks100 {I : Nat → Nat → Int32} {J : Nat → Nat → Int64} {R : Nat → Nat → Option Nat} : pm_go pm_swA 21 4 29 [(0, .ref 39), (1, .int 5), (2, .int 0), (3, .int 0), (4, .int 0), (5, .int 0)] [.int 0, .int 1, .ref 71] (q1_k34 I J R) = some (35, [(0, .ref 39), (1, .int 5), (2, .int 0), (3, .int 0), (4, .int 0), (5, .int 0)], [.ref 39, .ref 72], (q1_k35 I J R)) := rfl
set_option maxRecDepth 100000 in
theorem q1_ks101 {I : Nat → Nat → Int32} {J : Nat → Nat → Int64} {R : Nat → Nat → Option Nat} : pm_go pm_swA 21 2 35 [(0, .ref 39), (1, .int 5), (2, .int 0), (3, .int 0), (4, .int 0), (5, .int 0)] [.ref 39, .ref 72] (q1_k35 I J R) = some (40, [(0, .ref 39), (1, .int 5), (2, .int 0), (3, .int 0), (4, .int 0), (5, .int 0)], [.int 0, .int 1, .ref 72], (q1_k35 I J R)) := rfl
set_option maxRecDepth 100000 in
theorem q1_ks102 {I : Nat → Nat → Int32} {J : Nat → Nat → Int64} {R : Nat → Nat → Option Nat} : pm_go pm_swA 21 4 40 [(0, .ref 39), (1, .int 5), (2, .int 0), (3, .int 0), (4, .int 0), (5, .int 0)] [.int 0, .int 1, .ref 72] (q1_k35 I J R) = some (46, [(0, .ref 39), (1, .int 5), (2, .int 0), (3, .int 0), (4, .int 0), (5, .int 0)], [.ref 39, .ref 73], (q1_k36 I J R)) := rfl
set_option maxRecDepth 100000 in
theorem q1_ks103 {I : Nat → Nat → Int32} {J : Nat → Nat → Int64} {R : Nat → Nat → Option Nat} : pm_go pm_swA 21 2 46 [(0, .ref 39), (1, .int 5), (2, .int 0), (3, .int 0), (4, .int 0), (5, .int 0)] [.ref 39, .ref 73] (q1_k36 I J R) = some (51, [(0, .ref 39), (1, .int 5), (2, .int 0), (3, .int 0), (4, .int 0), (5, .int 0)], [.int 0, .int 1, .ref 73], (q1_k36 I J R)) := rfl
set_option maxRecDepth 100000 in
theorem q1_ks104 {I : Nat → Nat → Int32} {J : Nat → Nat → Int64} {R : Nat → Nat → Option Nat} : pm_go pm_swA 21 4 51 [(0, .ref 39), (1, .int 5), (2, .int 0), (3, .int 0), (4, .int 0), (5, .int 0)] [.int 0, .int 1, .ref 73] (q1_k36 I J R) = some (57, [(0, .ref 39), (1, .int 5), (2, .int 0), (3, .int 0), (4, .int 0), (5, .int 0)], [.int 1, .ref 39], (q1_k37 I J R)) := rfl
set_option maxRecDepth 100000 in
theorem q1_ks105 {I : Nat → Nat → Int32} {J : Nat → Nat → Int64} {R : Nat → Nat → Option Nat} : pm_go pm_swA 21 3 57 [(0, .ref 39), (1, .int 5), (2, .int 0), (3, .int 0), (4, .int 0), (5, .int 0)] [.int 1, .ref 39] (q1_k37 I J R) = some (62, [(0, .ref 39), (1, .int 5), (2, .int 0), (3, .int 0), (4, .int 0), (5, .int 0)], [], (q1_k38 I J R)) := rfl
set_option maxRecDepth 100000 in
theorem q1_ks106 {I : Nat → Nat → Int32} {J : Nat → Nat → Int64} {R : Nat → Nat → Option Nat} : pm_go pm_swA 24 1 65 [(0, .ref 39), (1, .int 1), (2, .int 0), (3, .int 0), (4, .int 0)] [] (q1_k38 I J R) = some (266, [(0, .ref 39), (1, .int 1), (2, .int 0), (3, .int 0), (4, .int 0)], [], (q1_k38 I J R)) := rfl
set_option maxRecDepth 100000 in
theorem q1_ks107 {I : Nat → Nat → Int32} {J : Nat → Nat → Int64} {R : Nat → Nat → Option Nat} : pm_go pm_swA 23 4 91 [(5, .int 0), (4, .int 0), (3, .int 0), (2, .int 0), (1, .int 1), (0, .ref 39)] [] (q1_k38 I J R) = some (4, [(5, .int 0), (4, .int 0), (3, .int 0), (2, .int 0), (1, .int 1), (0, .ref 39)], [.int 2], (q1_k38 I J R)) := rfl
set_option maxRecDepth 100000 in
theorem q1_ks108 {I : Nat → Nat → Int32} {J : Nat → Nat → Int64} {R : Nat → Nat → Option Nat} : pm_go pm_swA 23 4 4 [(5, .int 0), (4, .int 0), (3, .int 0), (2, .int 0), (1, .int 1), (0, .ref 39)] [.int 2] (q1_k38 I J R) = some (14, [(5, .int 0), (4, .int 0), (3, .int 0), (2, .int 0), (1, .int 1), (0, .ref 39)], [], (q1_k38 I J R)) := rfl
set_option maxRecDepth 100000 in
theorem q1_ks109 {I : Nat → Nat → Int32} {J : Nat → Nat → Int64} {R : Nat → Nat → Option Nat} : pm_go pm_swA 23 4 14 [(5, .int 0), (4, .int 0), (3, .int 0), (2, .int 0), (1, .int 1), (0, .ref 39)] [] (q1_k38 I J R) = some (20, [(5, .int 0), (4, .int 0), (3, .int 0), (2, .int 0), (1, .int 1), (0, .ref 39)], [.int 1, .int 2, .ref 39], (q1_k38 I J R)) := rfl
set_option maxRecDepth 100000 in
theorem q1_ks110 {I : Nat → Nat → Int32} {J : Nat → Nat → Int64} {R : Nat → Nat → Option Nat} : pm_go pm_swA 23 4 20 [(5, .int 0), (4, .int 0), (3, .int 0), (2, .int 0), (1, .int 1), (0, .ref 39)] [.int 1, .int 2, .ref 39] (q1_k38 I J R) = some (28, [(5, .int 0), (4, .int 0), (3, .int 0), (2, .int 0), (1, .int 1), (0, .ref 39)], [.ref 69], (q1_k39 I J R)) := rfl
set_option maxRecDepth 100000 in
theorem q1_ks111 {I : Nat → Nat → Int32} {J : Nat → Nat → Int64} {R : Nat → Nat → Option Nat} : pm_go pm_swA 23 2 28 [(5, .int 0), (4, .int 0), (3, .int 0), (2, .int 0), (1, .int 1), (0, .ref 39)] [.ref 69] (q1_k39 I J R) = some (32, [(5, .int 0), (4, .int 0), (3, .int 0), (2, .int 0), (1, .int 1), (0, .ref 39)], [.int (2 - 1), .ref 69], (q1_k39 I J R)) := rfl
set_option maxRecDepth 100000 in
theorem q1_ks112 {I : Nat → Nat → Int32} {J : Nat → Nat → Int64} {R : Nat → Nat → Option Nat} : pm_go pm_swA 23 4 32 [(5, .int 0), (4, .int 0), (3, .int 0), (2, .int 0), (1, .int 1), (0, .ref 39)] [.int (2 - 1), .ref 69] (q1_k39 I J R) = some (38, [(1, .int 5), (5, .int 0), (4, .int 0), (3, .int 0), (2, .int 0), (0, .ref 39)], [.ref 70], (q1_k39 I J R)) := rfl
set_option maxRecDepth 100000 in
theorem q1_ks113 {I : Nat → Nat → Int32} {J : Nat → Nat → Int64} {R : Nat → Nat → Option Nat} : pm_go pm_swA 23 2 38 [(1, .int 5), (5, .int 0), (4, .int 0), (3, .int 0), (2, .int 0), (0, .ref 39)] [.ref 70] (q1_k39 I J R) = some (42, [(1, .int 5), (5, .int 0), (4, .int 0), (3, .int 0), (2, .int 0), (0, .ref 39)], [.int (2 - 1), .ref 70], (q1_k39 I J R)) := rfl
set_option maxRecDepth 100000 in
theorem q1_ks114 {I : Nat → Nat → Int32} {J : Nat → Nat → Int64} {R : Nat → Nat → Option Nat} : pm_go pm_swA 23 4 42 [(1, .int 5), (5, .int 0), (4, .int 0), (3, .int 0), (2, .int 0), (0, .ref 39)] [.int (2 - 1), .ref 70] (q1_k39 I J R) = some (48, [(2, .int 0), (1, .int 5), (5, .int 0), (4, .int 0), (3, .int 0), (0, .ref 39)], [.ref 71], (q1_k39 I J R)) := rfl
set_option maxRecDepth 100000 in
theorem q1_ks115 {I : Nat → Nat → Int32} {J : Nat → Nat → Int64} {R : Nat → Nat → Option Nat} : pm_go pm_swA 23 2 48 [(2, .int 0), (1, .int 5), (5, .int 0), (4, .int 0), (3, .int 0), (0, .ref 39)] [.ref 71] (q1_k39 I J R) = some (52, [(2, .int 0), (1, .int 5), (5, .int 0), (4, .int 0), (3, .int 0), (0, .ref 39)], [.int (2 - 1), .ref 71], (q1_k39 I J R)) := rfl
set_option maxRecDepth 100000 in
theorem q1_ks116 {I : Nat → Nat → Int32} {J : Nat → Nat → Int64} {R : Nat → Nat → Option Nat} : pm_go pm_swA 23 4 52 [(2, .int 0), (1, .int 5), (5, .int 0), (4, .int 0), (3, .int 0), (0, .ref 39)] [.int (2 - 1), .ref 71] (q1_k39 I J R) = some (58, [(3, .int 0), (2, .int 0), (1, .int 5), (5, .int 0), (4, .int 0), (0, .ref 39)], [.ref 72], (q1_k39 I J R)) := rfl
set_option maxRecDepth 100000 in
theorem q1_ks117 {I : Nat → Nat → Int32} {J : Nat → Nat → Int64} {R : Nat → Nat → Option Nat} : pm_go pm_swA 23 2 58 [(3, .int 0), (2, .int 0), (1, .int 5), (5, .int 0), (4, .int 0), (0, .ref 39)] [.ref 72] (q1_k39 I J R) = some (62, [(3, .int 0), (2, .int 0), (1, .int 5), (5, .int 0), (4, .int 0), (0, .ref 39)], [.int (2 - 1), .ref 72], (q1_k39 I J R)) := rfl
set_option maxRecDepth 100000 in
theorem q1_ks118 {I : Nat → Nat → Int32} {J : Nat → Nat → Int64} {R : Nat → Nat → Option Nat} : pm_go pm_swA 23 4 62 [(3, .int 0), (2, .int 0), (1, .int 5), (5, .int 0), (4, .int 0), (0, .ref 39)] [.int (2 - 1), .ref 72] (q1_k39 I J R) = some (69, [(4, .int 0), (3, .int 0), (2, .int 0), (1, .int 5), (5, .int 0), (0, .ref 39)], [.ref 73], (q1_k39 I J R)) := rfl
set_option maxRecDepth 100000 in
theorem q1_ks119 {I : Nat → Nat → Int32} {J : Nat → Nat → Int64} {R : Nat → Nat → Option Nat} : pm_go pm_swA 23 2 69 [(4, .int 0), (3, .int 0), (2, .int 0), (1, .int 5), (5, .int 0), (0, .ref 39)] [.ref 73] (q1_k39 I J R) = some (73, [(4, .int 0), (3, .int 0), (2, .int 0), (1, .int 5), (5, .int 0), (0, .ref 39)], [.int (2 - 1), .ref 73], (q1_k39 I J R)) := rfl
set_option maxRecDepth 100000 in
theorem q1_ks120 {I : Nat → Nat → Int32} {J : Nat → Nat → Int64} {R : Nat → Nat → Option Nat} : pm_go pm_swA 23 4 73 [(4, .int 0), (3, .int 0), (2, .int 0), (1, .int 5), (5, .int 0), (0, .ref 39)] [.int (2 - 1), .ref 73] (q1_k39 I J R) = some (79, [(5, .int 0), (4, .int 0), (3, .int 0), (2, .int 0), (1, .int 5), (0, .ref 39)], [.int 13, .int 5], (q1_k39 I J R)) := rfl
set_option maxRecDepth 100000 in
theorem q1_ks121 {I : Nat → Nat → Int32} {J : Nat → Nat → Int64} {R : Nat → Nat → Option Nat} : pm_go pm_swA 23 4 79 [(5, .int 0), (4, .int 0), (3, .int 0), (2, .int 0), (1, .int 5), (0, .ref 39)] [.int 13, .int 5] (q1_k39 I J R) = some (85, [(5, .int 0), (4, .int 0), (3, .int 0), (2, .int 0), (1, .int 5), (0, .ref 39)], [.int 0, .int 5, .ref 39], (q1_k39 I J R)) := rfl
set_option maxRecDepth 100000 in
theorem q1_ks122 {I : Nat → Nat → Int32} {J : Nat → Nat → Int64} {R : Nat → Nat → Option Nat} : pm_go pm_swA 23 2 85 [(5, .int 0), (4, .int 0), (3, .int 0), (2, .int 0), (1, .int 5), (0, .ref 39)] [.int 0, .int 5, .ref 39] (q1_k39 I J R) = some (88, [(5, .int 0), (4, .int 0), (3, .int 0), (2, .int 0), (1, .int 5), (0, .ref 39)], [.int 0, .int 0, .int 0, .int 5, .ref 39], (q1_k39 I J R)) := rfl
set_option maxRecDepth 100000 in
theorem q1_ks123 {I : Nat → Nat → Int32} {J : Nat → Nat → Int64} {R : Nat → Nat → Option Nat} : pm_go pm_swA 24 1 0 [(0, .ref 39), (1, .int 5), (2, .int 0), (3, .int 0), (4, .int 0)] [] (q1_k39 I J R) = some (1, [(0, .ref 39), (1, .int 5), (2, .int 0), (3, .int 0), (4, .int 0)], [.int 5], (q1_k39 I J R)) := rfl
set_option maxRecDepth 100000 in
theorem q1_ks124 {I : Nat → Nat → Int32} {J : Nat → Nat → Int64} {R : Nat → Nat → Option Nat} : pm_go pm_swA 24 2 1 [(0, .ref 39), (1, .int 5), (2, .int 0), (3, .int 0), (4, .int 0)] [.int 5] (q1_k39 I J R) = some (136, [(0, .ref 39), (1, .int 5), (2, .int 0), (3, .int 0), (4, .int 0)], [.ref 39], (q1_k39 I J R)) := rfl
set_option maxRecDepth 100000 in
theorem q1_ks125 {I : Nat → Nat → Int32} {J : Nat → Nat → Int64} {R : Nat → Nat → Option Nat} : pm_go pm_swA 29 4 0 [(0, .ref 39)] [] (q1_k39 I J R) = some (8, [(0, .ref 39)], [], (q1_k39 I J R)) := rfl
set_option maxRecDepth 100000 in
theorem q1_ks126 {I : Nat → Nat → Int32} {J : Nat → Nat → Int64} {R : Nat → Nat → Option Nat} : pm_go pm_swA 29 4 8 [(0, .ref 39)] [] (q1_k39 I J R) = some (17, [(0, .ref 39)], [], (q1_k39 I J R)) := rfl
set_option maxRecDepth 100000 in
theorem q1_ks127 {I : Nat → Nat → Int32} {J : Nat → Nat → Int64} {R : Nat → Nat → Option Nat} : pm_go pm_swA 29 4 17 [(0, .ref 39)] [] (q1_k39 I J R) = some (26, [(0, .ref 39)], [], (q1_k39 I J R)) := rfl
set_option maxRecDepth 100000 in
theorem q1_ks128 {I : Nat → Nat → Int32} {J : Nat → Nat → Int64} {R : Nat → Nat → Option Nat} : pm_go pm_swA 29 4 26 [(0, .ref 39)] [] (q1_k39 I J R) = some (39, [(0, .ref 39)], [], (q1_k39 I J R)) := rfl
set_option maxRecDepth 100000 in
theorem q1_ks129 {I : Nat → Nat → Int32} {J : Nat → Nat → Int64} {R : Nat → Nat → Option Nat} : pm_go pm_swA 29 1 39 [(0, .ref 39)] [] (q1_k39 I J R) = some (40, [(0, .ref 39)], [.int 0], (q1_k39 I J R)) := rfl
set_option maxRecDepth 100000 in
theorem q1_ks130 {I : Nat → Nat → Int32} {J : Nat → Nat → Int64} {R : Nat → Nat → Option Nat} : pm_go pm_swA 24 1 139 [(0, .ref 39), (1, .int 5), (2, .int 0), (3, .int 0), (4, .int 0)] [.int 0] (q1_k39 I J R) = some (142, [(0, .ref 39), (1, .int 5), (2, .int 0), (3, .int 0), (4, .int 0)], [], (q1_k39 I J R)) := rfl
set_option maxRecDepth 100000 in
theorem q1_ks131 {I : Nat → Nat → Int32} {J : Nat → Nat → Int64} {R : Nat → Nat → Option Nat} : pm_go pm_swA 23 4 91 [(5, .int 0), (4, .int 0), (3, .int 0), (2, .int 0), (1, .int 5), (0, .ref 39)] [] (q1_k39 I J R) = some (4, [(5, .int 0), (4, .int 0), (3, .int 0), (2, .int 0), (1, .int 5), (0, .ref 39)], [.int (2 - 1)], (q1_k39 I J R)) := rfl
set_option maxRecDepth 100000 in
theorem q1_ks132 {I : Nat → Nat → Int32} {J : Nat → Nat → Int64} {R : Nat → Nat → Option Nat} : pm_go pm_swA 23 4 4 [(5, .int 0), (4, .int 0), (3, .int 0), (2, .int 0), (1, .int 5), (0, .ref 39)] [.int (2 - 1)] (q1_k39 I J R) = some (14, [(5, .int 0), (4, .int 0), (3, .int 0), (2, .int 0), (1, .int 5), (0, .ref 39)], [], (q1_k39 I J R)) := rfl
set_option maxRecDepth 100000 in
theorem q1_ks133 {I : Nat → Nat → Int32} {J : Nat → Nat → Int64} {R : Nat → Nat → Option Nat} : pm_go pm_swA 23 4 14 [(5, .int 0), (4, .int 0), (3, .int 0), (2, .int 0), (1, .int 5), (0, .ref 39)] [] (q1_k39 I J R) = some (20, [(5, .int 0), (4, .int 0), (3, .int 0), (2, .int 0), (1, .int 5), (0, .ref 39)], [.int 1, .int (2 - 1), .ref 39], (q1_k39 I J R)) := rfl
set_option maxRecDepth 100000 in
theorem q1_ks134 {I : Nat → Nat → Int32} {J : Nat → Nat → Int64} {R : Nat → Nat → Option Nat} : pm_go pm_swA 23 4 20 [(5, .int 0), (4, .int 0), (3, .int 0), (2, .int 0), (1, .int 5), (0, .ref 39)] [.int 1, .int (2 - 1), .ref 39] (q1_k39 I J R) = some (28, [(5, .int 0), (4, .int 0), (3, .int 0), (2, .int 0), (1, .int 5), (0, .ref 39)], [.ref 69], (q1_k40 I J R)) := rfl
set_option maxRecDepth 100000 in
theorem q1_ks135 {I : Nat → Nat → Int32} {J : Nat → Nat → Int64} {R : Nat → Nat → Option Nat} : pm_go pm_swA 23 2 28 [(5, .int 0), (4, .int 0), (3, .int 0), (2, .int 0), (1, .int 5), (0, .ref 39)] [.ref 69] (q1_k40 I J R) = some (32, [(5, .int 0), (4, .int 0), (3, .int 0), (2, .int 0), (1, .int 5), (0, .ref 39)], [.int ((2 - 1) - 1), .ref 69], (q1_k40 I J R)) := rfl
set_option maxRecDepth 100000 in
theorem q1_ks136 {I : Nat → Nat → Int32} {J : Nat → Nat → Int64} {R : Nat → Nat → Option Nat} : pm_go pm_swA 23 4 32 [(5, .int 0), (4, .int 0), (3, .int 0), (2, .int 0), (1, .int 5), (0, .ref 39)] [.int ((2 - 1) - 1), .ref 69] (q1_k40 I J R) = some (38, [(1, .int 2), (5, .int 0), (4, .int 0), (3, .int 0), (2, .int 0), (0, .ref 39)], [.ref 70], (q1_k40 I J R)) := rfl
set_option maxRecDepth 100000 in
theorem q1_ks137 {I : Nat → Nat → Int32} {J : Nat → Nat → Int64} {R : Nat → Nat → Option Nat} : pm_go pm_swA 23 2 38 [(1, .int 2), (5, .int 0), (4, .int 0), (3, .int 0), (2, .int 0), (0, .ref 39)] [.ref 70] (q1_k40 I J R) = some (42, [(1, .int 2), (5, .int 0), (4, .int 0), (3, .int 0), (2, .int 0), (0, .ref 39)], [.int ((2 - 1) - 1), .ref 70], (q1_k40 I J R)) := rfl
set_option maxRecDepth 100000 in
theorem q1_ks138 {I : Nat → Nat → Int32} {J : Nat → Nat → Int64} {R : Nat → Nat → Option Nat} : pm_go pm_swA 23 4 42 [(1, .int 2), (5, .int 0), (4, .int 0), (3, .int 0), (2, .int 0), (0, .ref 39)] [.int ((2 - 1) - 1), .ref 70] (q1_k40 I J R) = some (48, [(2, .int 0), (1, .int 2), (5, .int 0), (4, .int 0), (3, .int 0), (0, .ref 39)], [.ref 71], (q1_k40 I J R)) := rfl
set_option maxRecDepth 100000 in
theorem q1_ks139 {I : Nat → Nat → Int32} {J : Nat → Nat → Int64} {R : Nat → Nat → Option Nat} : pm_go pm_swA 23 2 48 [(2, .int 0), (1, .int 2), (5, .int 0), (4, .int 0), (3, .int 0), (0, .ref 39)] [.ref 71] (q1_k40 I J R) = some (52, [(2, .int 0), (1, .int 2), (5, .int 0), (4, .int 0), (3, .int 0), (0, .ref 39)], [.int ((2 - 1) - 1), .ref 71], (q1_k40 I J R)) := rfl
set_option maxRecDepth 100000 in
theorem q1_ks140 {I : Nat → Nat → Int32} {J : Nat → Nat → Int64} {R : Nat → Nat → Option Nat} : pm_go pm_swA 23 4 52 [(2, .int 0), (1, .int 2), (5, .int 0), (4, .int 0), (3, .int 0), (0, .ref 39)] [.int ((2 - 1) - 1), .ref 71] (q1_k40 I J R) = some (58, [(3, .int 0), (2, .int 0), (1, .int 2), (5, .int 0), (4, .int 0), (0, .ref 39)], [.ref 72], (q1_k40 I J R)) := rfl
set_option maxRecDepth 100000 in
theorem q1_ks141 {I : Nat → Nat → Int32} {J : Nat → Nat → Int64} {R : Nat → Nat → Option Nat} : pm_go pm_swA 23 2 58 [(3, .int 0), (2, .int 0), (1, .int 2), (5, .int 0), (4, .int 0), (0, .ref 39)] [.ref 72] (q1_k40 I J R) = some (62, [(3, .int 0), (2, .int 0), (1, .int 2), (5, .int 0), (4, .int 0), (0, .ref 39)], [.int ((2 - 1) - 1), .ref 72], (q1_k40 I J R)) := rfl
set_option maxRecDepth 100000 in
theorem q1_ks142 {I : Nat → Nat → Int32} {J : Nat → Nat → Int64} {R : Nat → Nat → Option Nat} : pm_go pm_swA 23 4 62 [(3, .int 0), (2, .int 0), (1, .int 2), (5, .int 0), (4, .int 0), (0, .ref 39)] [.int ((2 - 1) - 1), .ref 72] (q1_k40 I J R) = some (69, [(4, .int 0), (3, .int 0), (2, .int 0), (1, .int 2), (5, .int 0), (0, .ref 39)], [.ref 73], (q1_k40 I J R)) := rfl
set_option maxRecDepth 100000 in
theorem q1_ks143 {I : Nat → Nat → Int32} {J : Nat → Nat → Int64} {R : Nat → Nat → Option Nat} : pm_go pm_swA 23 2 69 [(4, .int 0), (3, .int 0), (2, .int 0), (1, .int 2), (5, .int 0), (0, .ref 39)] [.ref 73] (q1_k40 I J R) = some (73, [(4, .int 0), (3, .int 0), (2, .int 0), (1, .int 2), (5, .int 0), (0, .ref 39)], [.int ((2 - 1) - 1), .ref 73], (q1_k40 I J R)) := rfl
set_option maxRecDepth 100000 in
theorem q1_ks144 {I : Nat → Nat → Int32} {J : Nat → Nat → Int64} {R : Nat → Nat → Option Nat} : pm_go pm_swA 23 4 73 [(4, .int 0), (3, .int 0), (2, .int 0), (1, .int 2), (5, .int 0), (0, .ref 39)] [.int ((2 - 1) - 1), .ref 73] (q1_k40 I J R) = some (79, [(5, .int 0), (4, .int 0), (3, .int 0), (2, .int 0), (1, .int 2), (0, .ref 39)], [.int 13, .int 2], (q1_k40 I J R)) := rfl
set_option maxRecDepth 100000 in
theorem q1_ks145 {I : Nat → Nat → Int32} {J : Nat → Nat → Int64} {R : Nat → Nat → Option Nat} : pm_go pm_swA 23 4 79 [(5, .int 0), (4, .int 0), (3, .int 0), (2, .int 0), (1, .int 2), (0, .ref 39)] [.int 13, .int 2] (q1_k40 I J R) = some (85, [(5, .int 0), (4, .int 0), (3, .int 0), (2, .int 0), (1, .int 2), (0, .ref 39)], [.int 0, .int 2, .ref 39], (q1_k40 I J R)) := rfl
set_option maxRecDepth 100000 in
theorem q1_ks146 {I : Nat → Nat → Int32} {J : Nat → Nat → Int64} {R : Nat → Nat → Option Nat} : pm_go pm_swA 23 2 85 [(5, .int 0), (4, .int 0), (3, .int 0), (2, .int 0), (1, .int 2), (0, .ref 39)] [.int 0, .int 2, .ref 39] (q1_k40 I J R) = some (88, [(5, .int 0), (4, .int 0), (3, .int 0), (2, .int 0), (1, .int 2), (0, .ref 39)], [.int 0, .int 0, .int 0, .int 2, .ref 39], (q1_k40 I J R)) := rfl
set_option maxRecDepth 100000 in
theorem q1_ks147 {I : Nat → Nat → Int32} {J : Nat → Nat → Int64} {R : Nat → Nat → Option Nat} : pm_go pm_swA 24 1 0 [(0, .ref 39), (1, .int 2), (2, .int 0), (3, .int 0), (4, .int 0)] [] (q1_k40 I J R) = some (1, [(0, .ref 39), (1, .int 2), (2, .int 0), (3, .int 0), (4, .int 0)], [.int 2], (q1_k40 I J R)) := rfl
set_option maxRecDepth 100000 in
theorem q1_ks148 {I : Nat → Nat → Int32} {J : Nat → Nat → Int64} {R : Nat → Nat → Option Nat} : pm_go pm_swA 24 4 1 [(0, .ref 39), (1, .int 2), (2, .int 0), (3, .int 0), (4, .int 0)] [.int 2] (q1_k40 I J R) = some (74, [(0, .ref 39), (1, .int 2), (2, .int 0), (3, .int 0), (4, .int 0)], [.int 12, .int 12], (q1_k40 I J R)) := rfl
set_option maxRecDepth 100000 in
theorem q1_ks149 {I : Nat → Nat → Int32} {J : Nat → Nat → Int64} {R : Nat → Nat → Option Nat} : pm_go pm_swA 24 4 74 [(0, .ref 39), (1, .int 2), (2, .int 0), (3, .int 0), (4, .int 0)] [.int 12, .int 12] (q1_k40 I J R) = some (86, [(0, .ref 39), (1, .int 2), (2, .int 0), (3, .int 0), (4, .int 0)], [.int 0, .int 16, .ref 39], (q1_k40 I J R)) := rfl
set_option maxRecDepth 100000 in
theorem q1_ks150 {I : Nat → Nat → Int32} {J : Nat → Nat → Int64} {R : Nat → Nat → Option Nat} : pm_go pm_swA 24 1 86 [(0, .ref 39), (1, .int 2), (2, .int 0), (3, .int 0), (4, .int 0)] [.int 0, .int 16, .ref 39] (q1_k40 I J R) = some (87, [(0, .ref 39), (1, .int 2), (2, .int 0), (3, .int 0), (4, .int 0)], [.int 0, .int 0, .int 16, .ref 39], (q1_k40 I J R)) := rfl
set_option maxRecDepth 100000 in
theorem q1_ks151 {I : Nat → Nat → Int32} {J : Nat → Nat → Int64} {R : Nat → Nat → Option Nat} : pm_go pm_swA 16 4 0 [(0, .ref 39), (1, .int 16), (2, .int 0), (3, .int 0)] [] (q1_k40 I J R) = some (8, [(0, .ref 39), (1, .int 16), (2, .int 0), (3, .int 0)], [.int 1, .ref 58], (q1_k40 I J R)) := rfl
set_option maxRecDepth 100000 in
theorem q1_ks152 {I : Nat → Nat → Int32} {J : Nat → Nat → Int64} {R : Nat → Nat → Option Nat} : pm_go pm_swA 16 1 8 [(0, .ref 39), (1, .int 16), (2, .int 0), (3, .int 0)] [.int 1, .ref 58] (q1_k40 I J R) = some (9, [(0, .ref 39), (1, .int 16), (2, .int 0), (3, .int 0)], [.int 16, .int 1, .ref 58], (q1_k40 I J R)) := rfl
set_option maxRecDepth 100000 in
theorem q1_ks153 {I : Nat → Nat → Int32} {J : Nat → Nat → Int64} {R : Nat → Nat → Option Nat} : pm_go pm_swA 16 4 9 [(0, .ref 39), (1, .int 16), (2, .int 0), (3, .int 0)] [.int 16, .int 1, .ref 58] (q1_k40 I J R) = some (15, [(0, .ref 39), (1, .int 16), (2, .int 0), (3, .int 0)], [.ref 39, .ref 59], (q1_k41 I J R)) := rfl
set_option maxRecDepth 100000 in
theorem q1_ks154 {I : Nat → Nat → Int32} {J : Nat → Nat → Int64} {R : Nat → Nat → Option Nat} : pm_go pm_swA 16 2 15 [(0, .ref 39), (1, .int 16), (2, .int 0), (3, .int 0)] [.ref 39, .ref 59] (q1_k41 I J R) = some (19, [(0, .ref 39), (1, .int 16), (2, .int 0), (3, .int 0)], [.int 0, .int 1, .ref 59], (q1_k41 I J R)) := rfl
set_option maxRecDepth 100000 in
theorem q1_ks155 {I : Nat → Nat → Int32} {J : Nat → Nat → Int64} {R : Nat → Nat → Option Nat} : pm_go pm_swA 16 4 19 [(0, .ref 39), (1, .int 16), (2, .int 0), (3, .int 0)] [.int 0, .int 1, .ref 59] (q1_k41 I J R) = some (25, [(0, .ref 39), (1, .int 16), (2, .int 0), (3, .int 0)], [.ref 39, .ref 60], (q1_k42 I J R)) := rfl
set_option maxRecDepth 100000 in
theorem q1_ks156 {I : Nat → Nat → Int32} {J : Nat → Nat → Int64} {R : Nat → Nat → Option Nat} : pm_go pm_swA 16 2 25 [(0, .ref 39), (1, .int 16), (2, .int 0), (3, .int 0)] [.ref 39, .ref 60] (q1_k42 I J R) = some (29, [(0, .ref 39), (1, .int 16), (2, .int 0), (3, .int 0)], [.int 0, .int 1, .ref 60], (q1_k42 I J R)) := rfl
set_option maxRecDepth 100000 in
theorem q1_ks157 {I : Nat → Nat → Int32} {J : Nat → Nat → Int64} {R : Nat → Nat → Option Nat} : pm_go pm_swA 16 4 29 [(0, .ref 39), (1, .int 16), (2, .int 0), (3, .int 0)] [.int 0, .int 1, .ref 60] (q1_k42 I J R) = some (35, [(0, .ref 39), (1, .int 16), (2, .int 0), (3, .int 0)], [.int 1, .ref 39], (q1_k43 I J R)) := rfl
set_option maxRecDepth 100000 in
theorem q1_ks158 {I : Nat → Nat → Int32} {J : Nat → Nat → Int64} {R : Nat → Nat → Option Nat} : pm_go pm_swA 16 3 35 [(0, .ref 39), (1, .int 16), (2, .int 0), (3, .int 0)] [.int 1, .ref 39] (q1_k43 I J R) = some (40, [(0, .ref 39), (1, .int 16), (2, .int 0), (3, .int 0)], [], (q1_k44 I J R)) := rfl
set_option maxRecDepth 100000 in
theorem q1_ks159 {I : Nat → Nat → Int32} {J : Nat → Nat → Int64} {R : Nat → Nat → Option Nat} : pm_go pm_swA 24 1 90 [(0, .ref 39), (1, .int 2), (2, .int 0), (3, .int 0), (4, .int 0)] [] (q1_k44 I J R) = some (266, [(0, .ref 39), (1, .int 2), (2, .int 0), (3, .int 0), (4, .int 0)], [], (q1_k44 I J R)) := rfl
set_option maxRecDepth 100000 in
theorem q1_ks160 {I : Nat → Nat → Int32} {J : Nat → Nat → Int64} {R : Nat → Nat → Option Nat} : pm_go pm_swA 23 4 91 [(5, .int 0), (4, .int 0), (3, .int 0), (2, .int 0), (1, .int 2), (0, .ref 39)] [] (q1_k44 I J R) = some (4, [(5, .int 0), (4, .int 0), (3, .int 0), (2, .int 0), (1, .int 2), (0, .ref 39)], [.int ((2 - 1) - 1)], (q1_k44 I J R)) := rfl
set_option maxRecDepth 100000 in
theorem q1_ks161 {I : Nat → Nat → Int32} {J : Nat → Nat → Int64} {R : Nat → Nat → Option Nat} : pm_go pm_swA 23 1 4 [(5, .int 0), (4, .int 0), (3, .int 0), (2, .int 0), (1, .int 2), (0, .ref 39)] [.int ((2 - 1) - 1)] (q1_k44 I J R) = some (108, [(5, .int 0), (4, .int 0), (3, .int 0), (2, .int 0), (1, .int 2), (0, .ref 39)], [], (q1_k44 I J R)) := rfl
set_option maxRecDepth 100000 in
theorem q1_ks162 {I : Nat → Nat → Int32} {J : Nat → Nat → Int64} {R : Nat → Nat → Option Nat} : pm_go pm_swA 48 4 147 [(1, .int 0), (0, .ref 39)] [] (q1_k44 I J R) = some (155, [(1, .int 0), (0, .ref 39)], [.ref 39], (q1_k44 I J R)) := rfl
set_option maxRecDepth 100000 in
theorem q1_ks163 {I : Nat → Nat → Int32} {J : Nat → Nat → Int64} {R : Nat → Nat → Option Nat} : pm_go pm_swA 48 4 155 [(1, .int 0), (0, .ref 39)] [.ref 39] (q1_k44 I J R) = some (164, [(1, .int 0), (0, .ref 39)], [.ref 39], (q1_k45 I J R)) := rfl
set_option maxRecDepth 100000 in
theorem q1_ks164 {I : Nat → Nat → Int32} {J : Nat → Nat → Int64} {R : Nat → Nat → Option Nat} : pm_go pm_swA 48 4 164 [(1, .int 0), (0, .ref 39)] [.ref 39] (q1_k45 I J R) = some (199, [(1, .int 0), (0, .ref 39)], [.int 1], (q1_k45 I J R)) := rfl
set_option maxRecDepth 100000 in
theorem q1_ks165 {I : Nat → Nat → Int32} {J : Nat → Nat → Int64} {R : Nat → Nat → Option Nat} : pm_go pm_swA 48 3 199 [(1, .int 0), (0, .ref 39)] [.int 1] (q1_k45 I J R) = some (206, [(1, .int 0), (0, .ref 39)], [.int (-1)], (q1_k45 I J R)) := rfl
set_option maxRecDepth 100000 in
theorem q1_ks166 {I : Nat → Nat → Int32} {J : Nat → Nat → Int64} {R : Nat → Nat → Option Nat} : pm_go pm_swA 48 1 206 [(1, .int 0), (0, .ref 39)] [.int (-1)] (q1_k45 I J R) = some (bif pm_c0 .lt (-1) then 225 else 209, [(1, .int 0), (0, .ref 39)], [], (q1_k45 I J R)) := rfl
set_option maxRecDepth 100000 in
theorem q1_ks167 {I : Nat → Nat → Int32} {J : Nat → Nat → Int64} {R : Nat → Nat → Option Nat} : pm_go pm_swA 48 2 225 [(1, .int 0), (0, .ref 39)] [] (q1_k45 I J R) = some (227, [(1, .int 0), (0, .ref 39)], [], (q1_k45 I J R)) := rfl
set_option maxRecDepth 100000 in
set_option maxHeartbeats 4000000 in
/-- the model's check on the empty text, up to its last loop -/
theorem q1_48a {I : Nat → Nat → Int32} {J : Nat → Nat → Int64} {R : Nat → Nat → Option Nat} {Q : Option Value → pm_H → Prop} (q : px 999 48 227 [(1, .int 0), (0, .ref 39)] [] (q1_k45 I J R) Q) : px 999 48 0 (lv_args 0 [.ref 39]) [] (va_up I 39 (fun _ => 0), J, va_up R 39 (pg_f pg_lM 39)) Q := by
  refine px_g q1_ks1 ?_
  refine px_g q1_ks2 ?_
  refine px_g q1_ks3 ?_
  refine px_g q1_ks4 ?_
  refine px_g q1_ks5 ?_
  refine px_g q1_ks6 ?_
  refine px_g q1_ks7 ?_
  refine px_g q1_ks8 ?_
  refine px_g q1_ks9 ?_
  refine px_g q1_ks10 ?_
  refine px_g q1_ks11 ?_
  refine px_g q1_ks12 ?_
  refine px_g q1_ks13 ?_
  refine px_g q1_ks14 ?_
  refine px_g q1_ks15 ?_
  refine px_g q1_ks16 ?_
  refine px_g q1_ks17 ?_
  refine px_call (d := 998) (mj := 6) (as := [.ref 39]) (S' := []) rfl rfl ?_
  refine px_g q1_ks18 ?_
  refine px_g q1_ks19 ?_
  refine px_g q1_ks20 ?_
  refine px_g q1_ks21 ?_
  refine px_call (d := 997) (mj := 5) (as := [.ref 39, .int 0]) (S' := []) rfl rfl ?_
  refine px_g q1_ks22 ?_
  refine px_g q1_ks23 ?_
  refine px_ret (v := some (.int 0)) rfl ?_
  refine px_g q1_ks24 ?_
  refine px_g q1_ks25 ?_
  refine px_g q1_ks26 ?_
  refine px_g q1_ks27 ?_
  refine px_ret (v := none) rfl ?_
  refine px_g q1_ks28 ?_
  refine px_call (d := 998) (mj := 16) (as := [.ref 39, .int 15, .int 0, .int 0]) (S' := []) rfl rfl ?_
  refine px_g q1_ks29 ?_
  refine px_g q1_ks30 ?_
  refine px_g q1_ks31 ?_
  refine px_g q1_ks32 ?_
  refine px_g q1_ks33 ?_
  refine px_g q1_ks34 ?_
  refine px_g q1_ks35 ?_
  refine px_g q1_ks36 ?_
  refine px_ret (v := none) rfl ?_
  refine px_g q1_ks37 ?_
  refine px_call (d := 998) (mj := 22) (as := [.ref 39, .int 1]) (S' := []) rfl rfl ?_
  refine px_g q1_ks38 ?_
  refine px_g q1_ks39 ?_
  refine px_call (d := 997) (mj := 21) (as := [.ref 39, .int 1, .int 0, .int 0, .int 0, .int 0]) (S' := []) rfl rfl ?_
  refine px_g q1_ks40 ?_
  refine px_g q1_ks41 ?_
  refine px_g q1_ks42 ?_
  refine px_g q1_ks43 ?_
  refine px_g q1_ks44 ?_
  refine px_g q1_ks45 ?_
  refine px_g q1_ks46 ?_
  refine px_g q1_ks47 ?_
  refine px_g q1_ks48 ?_
  refine px_g q1_ks49 ?_
  refine px_g q1_ks50 ?_
  refine px_g q1_ks51 ?_
  refine px_ret (v := none) rfl ?_
  refine px_ret (v := none) rfl ?_
  refine px_g q1_ks52 ?_
  refine px_call (d := 998) (mj := 23) (as := [.ref 39]) (S' := []) rfl rfl ?_
  refine px_g q1_ks53 ?_
  refine px_g q1_ks54 ?_
  refine px_g q1_ks55 ?_
  refine px_g q1_ks56 ?_
  refine px_g q1_ks57 ?_
  refine px_g q1_ks58 ?_
  refine px_g q1_ks59 ?_
  refine px_g q1_ks60 ?_
  refine px_g q1_ks61 ?_
  refine px_g q1_ks62 ?_
  refine px_g q1_ks63 ?_
  refine px_g q1_ks64 ?_
  refine px_g q1_ks65 ?_
  refine px_g q1_ks66 ?_
  refine px_g q1_ks67 ?_
  refine px_call (d := 997) (mj := 24) (as := [.ref 39, .int 1, .int 0, .int 0, .int 0]) (S' := []) rfl rfl ?_
  refine px_g q1_ks68 ?_
  refine px_g q1_ks69 ?_
  refine px_call (d := 996) (mj := 26) (as := [.ref 39, .int 0]) (S' := []) rfl rfl ?_
  refine px_g q1_ks70 ?_
  refine px_g q1_ks71 ?_
  refine px_g q1_ks72 ?_
  refine px_g q1_ks73 ?_
  refine px_g q1_ks74 ?_
  refine px_g q1_ks75 ?_
  refine px_g q1_ks76 ?_
  refine px_call (d := 995) (mj := 22) (as := [.ref 39, .int 2]) (S' := []) rfl rfl ?_
  refine px_g q1_ks77 ?_
  refine px_g q1_ks78 ?_
  refine px_call (d := 994) (mj := 21) (as := [.ref 39, .int 2, .int 0, .int 0, .int 0, .int 0]) (S' := []) rfl rfl ?_
  refine px_g q1_ks79 ?_
  refine px_g q1_ks80 ?_
  refine px_g q1_ks81 ?_
  refine px_g q1_ks82 ?_
  refine px_g q1_ks83 ?_
  refine px_g q1_ks84 ?_
  refine px_g q1_ks85 ?_
  refine px_g q1_ks86 ?_
  refine px_g q1_ks87 ?_
  refine px_g q1_ks88 ?_
  refine px_g q1_ks89 ?_
  refine px_g q1_ks90 ?_
  refine px_ret (v := none) rfl ?_
  refine px_ret (v := none) rfl ?_
  refine px_g q1_ks91 ?_
  refine px_call (d := 995) (mj := 22) (as := [.ref 39, .int 5]) (S' := []) rfl rfl ?_
  refine px_g q1_ks92 ?_
  refine px_g q1_ks93 ?_
  refine px_call (d := 994) (mj := 21) (as := [.ref 39, .int 5, .int 0, .int 0, .int 0, .int 0]) (S' := []) rfl rfl ?_
  refine px_g q1_ks94 ?_
  refine px_g q1_ks95 ?_
  refine px_g q1_ks96 ?_
  refine px_g q1_ks97 ?_
  refine px_g q1_ks98 ?_
  refine px_g q1_ks99 ?_
  refine px_g q1_ks100 ?_
  refine px_g q1_ks101 ?_
  refine px_g q1_ks102 ?_
  refine px_g q1_ks103 ?_
  refine px_g q1_ks104 ?_
  refine px_g q1_ks105 ?_
  refine px_ret (v := none) rfl ?_
  refine px_ret (v := none) rfl ?_
  refine px_ret (v := none) rfl ?_
  refine px_g q1_ks106 ?_
  refine px_ret (v := none) rfl ?_
  refine px_g q1_ks107 ?_
  refine px_g q1_ks108 ?_
  refine px_g q1_ks109 ?_
  refine px_g q1_ks110 ?_
  refine px_g q1_ks111 ?_
  refine px_g q1_ks112 ?_
  refine px_g q1_ks113 ?_
  refine px_g q1_ks114 ?_
  refine px_g q1_ks115 ?_
  refine px_g q1_ks116 ?_
  refine px_g q1_ks117 ?_
  refine px_g q1_ks118 ?_
  refine px_g q1_ks119 ?_
  refine px_g q1_ks120 ?_
  refine px_g q1_ks121 ?_
  refine px_g q1_ks122 ?_
  refine px_call (d := 997) (mj := 24) (as := [.ref 39, .int 5, .int 0, .int 0, .int 0]) (S' := []) rfl rfl ?_
  refine px_g q1_ks123 ?_
  refine px_g q1_ks124 ?_
  refine px_call (d := 996) (mj := 29) (as := [.ref 39]) (S' := []) rfl rfl ?_
  refine px_g q1_ks125 ?_
  refine px_g q1_ks126 ?_
  refine px_g q1_ks127 ?_
  refine px_g q1_ks128 ?_
  refine px_g q1_ks129 ?_
  refine px_ret (v := some (.int 0)) rfl ?_
  refine px_g q1_ks130 ?_
  refine px_ret (v := none) rfl ?_
  refine px_g q1_ks131 ?_
  refine px_g q1_ks132 ?_
  refine px_g q1_ks133 ?_
  refine px_g q1_ks134 ?_
  refine px_g q1_ks135 ?_
  refine px_g q1_ks136 ?_
  refine px_g q1_ks137 ?_
  refine px_g q1_ks138 ?_
  refine px_g q1_ks139 ?_
  refine px_g q1_ks140 ?_
  refine px_g q1_ks141 ?_
  refine px_g q1_ks142 ?_
  refine px_g q1_ks143 ?_
  refine px_g q1_ks144 ?_
  refine px_g q1_ks145 ?_
  refine px_g q1_ks146 ?_
  refine px_call (d := 997) (mj := 24) (as := [.ref 39, .int 2, .int 0, .int 0, .int 0]) (S' := []) rfl rfl ?_
  refine px_g q1_ks147 ?_
  refine px_g q1_ks148 ?_
  refine px_g q1_ks149 ?_
  refine px_g q1_ks150 ?_
  refine px_call (d := 996) (mj := 16) (as := [.ref 39, .int 16, .int 0, .int 0]) (S' := []) rfl rfl ?_
  refine px_g q1_ks151 ?_
  refine px_g q1_ks152 ?_
  refine px_g q1_ks153 ?_
  refine px_g q1_ks154 ?_
  refine px_g q1_ks155 ?_
  refine px_g q1_ks156 ?_
  refine px_g q1_ks157 ?_
  refine px_g q1_ks158 ?_
  refine px_ret (v := none) rfl ?_
  refine px_g q1_ks159 ?_
  refine px_ret (v := none) rfl ?_
  refine px_g q1_ks160 ?_
  refine px_g q1_ks161 ?_
  refine px_ret (v := none) rfl ?_
  refine px_g q1_ks162 ?_
  refine px_g q1_ks163 ?_
  refine px_g q1_ks164 ?_
  refine px_g q1_ks165 ?_
  refine px_g q1_ks166 ?_
  rw [show pm_c0 .lt (-1) = true from by decide]
  refine px_g q1_ks167 ?_
  exact q
set_option maxRecDepth 100000 in
set_option maxHeartbeats 4000000 in
theorem q1_48 {I : Nat → Nat → Int32} {J : Nat → Nat → Int64} {R : Nat → Nat → Option Nat} {Q : Option Value → pm_H → Prop} (q : ∀ h' : pm_H, Q (some (.int 0)) h') : px 999 48 0 (lv_args 0 [.ref 39]) [] (va_up I 39 (fun _ => 0), J, va_up R 39 (pg_f pg_lM 39)) Q := by
  refine q1_48a ?_
  refine px_seg 9 (pc' := 242) (L' := [(1, .int (nI 0)), (0, .ref 39)]) (S' := [.int 0, .int (nI 0), .ref 61]) (h' := (q1_k45 I J R)) (fun _ => rfl) ?_
  refine px_iastore (a := 61) (x := 0) (j := nI 0) (S := []) rfl rfl rfl ?_
  refine px_seg 2 (pc' := 227) (L' := [(1, .int (nI 1)), (0, .ref 39)]) (S' := []) (h' := pm_setI (q1_k45 I J R) 61 0 0) (fun _ => rfl) ?_
  refine ck_zero rfl (fun F2 => ?_) 2559 1 _ rfl
  exact ⟨20, some (.int 0), _, rfl, q _⟩
