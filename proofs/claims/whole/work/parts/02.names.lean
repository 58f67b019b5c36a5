/-! Names and tables of the classes and methods, written by gentab.py out of what TURN printed of the program -/
def pm_R0 : String := "QuietChecker$Machine"
def pm_T0 : u_T := fun k => match k with
  | 0 => ("QuietChecker$Machine", "program", "LQuietChecker$Program;", true)
  | 1 => ("QuietChecker$Machine", "cells", "[I", true)
  | 2 => ("QuietChecker$Machine", "notes", "[I", true)
  | 3 => ("QuietChecker$Machine", "noted", "I", false)
  | 4 => ("QuietChecker$Machine", "steps", "I", false)
  | 5 => ("QuietChecker$Machine", "end", "I", false)
  | 6 => ("QuietChecker$Machine", "stack", "[I", true)
  | 7 => ("QuietChecker$Machine", "height", "I", false)
  | 8 => ("QuietChecker$Machine", "next", "I", false)
  | _ => ("QuietChecker$Machine", "fuel", "I", false)
def pm_y0 : Nat → FieldType := fun k => match k with
  | 0 => .object "QuietChecker$Program"
  | 1 => .array .int
  | 2 => .array .int
  | 3 => .int
  | 4 => .int
  | 5 => .int
  | 6 => .array .int
  | 7 => .int
  | 8 => .int
  | _ => .int
theorem pm_nm0 : ∀ a, a < 10 → ∀ b, b < 10 → a ≠ b → (pm_T0 a).2.1 ≠ (pm_T0 b).2.1 := by decide +kernel
theorem pm_ty0 : ∀ k, k < 10 → parseFieldDescriptor (pm_T0 k).2.2.1 = some (pm_y0 k) := by decide +kernel
def pm_R1 : String := "QuietChecker$Names"
def pm_T1 : u_T := fun k => match k with
  | 0 => ("QuietChecker$Names", "text", "[C", true)
  | 1 => ("QuietChecker$Names", "places", "[I", true)
  | 2 => ("QuietChecker$Names", "sizes", "[I", true)
  | 3 => ("QuietChecker$Names", "secrets", "[Z", true)
  | _ => ("QuietChecker$Names", "count", "I", false)
def pm_y1 : Nat → FieldType := fun k => match k with
  | 0 => .array .char
  | 1 => .array .int
  | 2 => .array .int
  | 3 => .array .boolean
  | _ => .int
theorem pm_nm1 : ∀ a, a < 5 → ∀ b, b < 5 → a ≠ b → (pm_T1 a).2.1 ≠ (pm_T1 b).2.1 := by decide +kernel
theorem pm_ty1 : ∀ k, k < 5 → parseFieldDescriptor (pm_T1 k).2.2.1 = some (pm_y1 k) := by decide +kernel
def pm_R2 : String := "QuietChecker$Parser"
def pm_T2 : u_T := fun k => match k with
  | 0 => ("QuietChecker$Parser", "program", "LQuietChecker$Program;", true)
  | 1 => ("QuietChecker$Parser", "tokens", "LQuietChecker$Tokens;", true)
  | 2 => ("QuietChecker$Parser", "locals", "LQuietChecker$Names;", true)
  | 3 => ("QuietChecker$Parser", "inFunction", "Z", false)
  | 4 => ("QuietChecker$Parser", "fault", "I", false)
  | 5 => ("QuietChecker$Parser", "leak", "I", false)
  | 6 => ("QuietChecker$Parser", "token", "I", false)
  | 7 => ("QuietChecker$Parser", "kind", "LQuietChecker$Kind;", false)
  | _ => ("QuietChecker$Parser", "place", "I", false)
def pm_y2 : Nat → FieldType := fun k => match k with
  | 0 => .object "QuietChecker$Program"
  | 1 => .object "QuietChecker$Tokens"
  | 2 => .object "QuietChecker$Names"
  | 3 => .boolean
  | 4 => .int
  | 5 => .int
  | 6 => .int
  | 7 => .object "QuietChecker$Kind"
  | _ => .int
theorem pm_nm2 : ∀ a, a < 9 → ∀ b, b < 9 → a ≠ b → (pm_T2 a).2.1 ≠ (pm_T2 b).2.1 := by decide +kernel
theorem pm_ty2 : ∀ k, k < 9 → parseFieldDescriptor (pm_T2 k).2.2.1 = some (pm_y2 k) := by decide +kernel
def pm_R3 : String := "QuietChecker$Program"
def pm_T3 : u_T := fun k => match k with
  | 0 => ("QuietChecker$Program", "text", "[C", true)
  | 1 => ("QuietChecker$Program", "length", "I", false)
  | 2 => ("QuietChecker$Program", "top", "LQuietChecker$Names;", true)
  | 3 => ("QuietChecker$Program", "sizes", "[I", true)
  | 4 => ("QuietChecker$Program", "arrayNumbers", "[I", true)
  | 5 => ("QuietChecker$Program", "arrays", "I", false)
  | 6 => ("QuietChecker$Program", "functions", "LQuietChecker$Names;", true)
  | 7 => ("QuietChecker$Program", "entries", "[I", true)
  | 8 => ("QuietChecker$Program", "parameters", "[I", true)
  | 9 => ("QuietChecker$Program", "secretParameters", "[Z", true)
  | 10 => ("QuietChecker$Program", "ops", "[I", true)
  | 11 => ("QuietChecker$Program", "details", "[I", true)
  | 12 => ("QuietChecker$Program", "codeLength", "I", false)
  | 13 => ("QuietChecker$Program", "start", "I", false)
  | 14 => ("QuietChecker$Program", "statements", "I", false)
  | _ => ("QuietChecker$Program", "whole", "Z", false)
def pm_y3 : Nat → FieldType := fun k => match k with
  | 0 => .array .char
  | 1 => .int
  | 2 => .object "QuietChecker$Names"
  | 3 => .array .int
  | 4 => .array .int
  | 5 => .int
  | 6 => .object "QuietChecker$Names"
  | 7 => .array .int
  | 8 => .array .int
  | 9 => .array .boolean
  | 10 => .array .int
  | 11 => .array .int
  | 12 => .int
  | 13 => .int
  | 14 => .int
  | _ => .boolean
theorem pm_nm3 : ∀ a, a < 16 → ∀ b, b < 16 → a ≠ b → (pm_T3 a).2.1 ≠ (pm_T3 b).2.1 := by decide +kernel
theorem pm_ty3 : ∀ k, k < 16 → parseFieldDescriptor (pm_T3 k).2.2.1 = some (pm_y3 k) := by decide +kernel
def pm_R4 : String := "QuietChecker$Tokens"
def pm_T4 : u_T := fun k => match k with
  | 0 => ("QuietChecker$Tokens", "kinds", "[LQuietChecker$Kind;", true)
  | 1 => ("QuietChecker$Tokens", "places", "[I", true)
  | 2 => ("QuietChecker$Tokens", "sizes", "[I", true)
  | 3 => ("QuietChecker$Tokens", "numbers", "[I", true)
  | 4 => ("QuietChecker$Tokens", "count", "I", false)
  | 5 => ("QuietChecker$Tokens", "text", "[C", true)
  | 6 => ("QuietChecker$Tokens", "length", "I", false)
  | 7 => ("QuietChecker$Tokens", "next", "I", false)
  | _ => ("QuietChecker$Tokens", "number", "I", false)
def pm_y4 : Nat → FieldType := fun k => match k with
  | 0 => .array (.object "QuietChecker$Kind")
  | 1 => .array .int
  | 2 => .array .int
  | 3 => .array .int
  | 4 => .int
  | 5 => .array .char
  | 6 => .int
  | 7 => .int
  | _ => .int
theorem pm_nm4 : ∀ a, a < 9 → ∀ b, b < 9 → a ≠ b → (pm_T4 a).2.1 ≠ (pm_T4 b).2.1 := by decide +kernel
theorem pm_ty4 : ∀ k, k < 9 → parseFieldDescriptor (pm_T4 k).2.2.1 = some (pm_y4 k) := by decide +kernel
def pm_R5 : String := "QuietChecker"
def pm_T5 : u_T := fun k => match k with
  | 0 => ("QuietChecker", "text", "[C", true)
  | 1 => ("QuietChecker", "length", "I", false)
  | 2 => ("QuietChecker", "program", "LQuietChecker$Program;", true)
  | 3 => ("QuietChecker", "parser", "LQuietChecker$Parser;", true)
  | 4 => ("QuietChecker", "inputs", "[I", true)
  | 5 => ("QuietChecker", "inputsOfRun", "[I", true)
  | 6 => ("QuietChecker", "latest", "LQuietChecker$Machine;", true)
  | 7 => ("QuietChecker", "other", "LQuietChecker$Machine;", true)
  | 8 => ("QuietChecker", "fuelOfRun", "I", false)
  | 9 => ("QuietChecker", "ran", "Z", false)
  | _ => ("QuietChecker", "fault", "I", false)
def pm_y5 : Nat → FieldType := fun k => match k with
  | 0 => .array .char
  | 1 => .int
  | 2 => .object "QuietChecker$Program"
  | 3 => .object "QuietChecker$Parser"
  | 4 => .array .int
  | 5 => .array .int
  | 6 => .object "QuietChecker$Machine"
  | 7 => .object "QuietChecker$Machine"
  | 8 => .int
  | 9 => .boolean
  | _ => .int
theorem pm_nm5 : ∀ a, a < 11 → ∀ b, b < 11 → a ≠ b → (pm_T5 a).2.1 ≠ (pm_T5 b).2.1 := by decide +kernel
theorem pm_ty5 : ∀ k, k < 11 → parseFieldDescriptor (pm_T5 k).2.2.1 = some (pm_y5 k) := by decide +kernel
def pm_R6 : String := "QuietCheckerModel"
def pm_T6 : u_T := fun k => match k with
  | 0 => ("QuietCheckerModel", "code", "I", false)
  | 1 => ("QuietCheckerModel", "text", "[C", true)
  | 2 => ("QuietCheckerModel", "kept", "[C", true)
  | 3 => ("QuietCheckerModel", "size", "I", false)
  | 4 => ("QuietCheckerModel", "keptSize", "I", false)
  | 5 => ("QuietCheckerModel", "at", "I", false)
  | 6 => ("QuietCheckerModel", "token", "I", false)
  | 7 => ("QuietCheckerModel", "from", "I", false)
  | 8 => ("QuietCheckerModel", "end", "I", false)
  | 9 => ("QuietCheckerModel", "number", "J", false)
  | 10 => ("QuietCheckerModel", "fault", "I", false)
  | 11 => ("QuietCheckerModel", "placed", "I", false)
  | 12 => ("QuietCheckerModel", "label", "I", false)
  | 13 => ("QuietCheckerModel", "tops", "I", false)
  | 14 => ("QuietCheckerModel", "arrays", "I", false)
  | 15 => ("QuietCheckerModel", "cells", "I", false)
  | 16 => ("QuietCheckerModel", "owns", "I", false)
  | 17 => ("QuietCheckerModel", "functions", "I", false)
  | 18 => ("QuietCheckerModel", "secrets", "I", false)
  | 19 => ("QuietCheckerModel", "statements", "I", false)
  | 20 => ("QuietCheckerModel", "open", "I", false)
  | 21 => ("QuietCheckerModel", "topAt", "[I", true)
  | 22 => ("QuietCheckerModel", "topLong", "[I", true)
  | 23 => ("QuietCheckerModel", "topSize", "[I", true)
  | 24 => ("QuietCheckerModel", "topNumber", "[I", true)
  | 25 => ("QuietCheckerModel", "topCell", "[I", true)
  | 26 => ("QuietCheckerModel", "topSecret", "[Z", true)
  | 27 => ("QuietCheckerModel", "ownSecret", "[Z", true)
  | 28 => ("QuietCheckerModel", "functionSecret", "[Z", true)
  | 29 => ("QuietCheckerModel", "ownAt", "[I", true)
  | 30 => ("QuietCheckerModel", "ownLong", "[I", true)
  | 31 => ("QuietCheckerModel", "functionAt", "[I", true)
  | 32 => ("QuietCheckerModel", "functionLong", "[I", true)
  | 33 => ("QuietCheckerModel", "functionBegin", "[I", true)
  | 34 => ("QuietCheckerModel", "parameters", "[I", true)
  | 35 => ("QuietCheckerModel", "ownsOf", "[I", true)
  | 36 => ("QuietCheckerModel", "parameterSecret", "[Z", true)
  | 37 => ("QuietCheckerModel", "within", "Z", false)
  | 38 => ("QuietCheckerModel", "orders", "I", false)
  | 39 => ("QuietCheckerModel", "order", "[I", true)
  | 40 => ("QuietCheckerModel", "one", "[I", true)
  | 41 => ("QuietCheckerModel", "two", "[I", true)
  | 42 => ("QuietCheckerModel", "secret", "Z", false)
  | 43 => ("QuietCheckerModel", "there", "Z", false)
  | 44 => ("QuietCheckerModel", "ran", "Z", false)
  | 45 => ("QuietCheckerModel", "inputs", "[I", true)
  | 46 => ("QuietCheckerModel", "now", "[I", true)
  | 47 => ("QuietCheckerModel", "notes", "[I", true)
  | 48 => ("QuietCheckerModel", "pile", "[I", true)
  | 49 => ("QuietCheckerModel", "frames", "[I", true)
  | 50 => ("QuietCheckerModel", "noted", "I", false)
  | 51 => ("QuietCheckerModel", "steps", "I", false)
  | 52 => ("QuietCheckerModel", "ending", "I", false)
  | 53 => ("QuietCheckerModel", "fuelOf", "I", false)
  | 54 => ("QuietCheckerModel", "depth", "I", false)
  | 55 => ("QuietCheckerModel", "before", "[I", true)
  | 56 => ("QuietCheckerModel", "saved", "[I", true)
  | 57 => ("QuietCheckerModel", "lastNotes", "[I", true)
  | 58 => ("QuietCheckerModel", "tasks", "I", false)
  | 59 => ("QuietCheckerModel", "task", "[I", true)
  | 60 => ("QuietCheckerModel", "taskA", "[I", true)
  | 61 => ("QuietCheckerModel", "taskB", "[I", true)
  | 62 => ("QuietCheckerModel", "taskC", "[I", true)
  | _ => ("QuietCheckerModel", "taskD", "[I", true)
def pm_y6 : Nat → FieldType := fun k => match k with
  | 0 => .int
  | 1 => .array .char
  | 2 => .array .char
  | 3 => .int
  | 4 => .int
  | 5 => .int
  | 6 => .int
  | 7 => .int
  | 8 => .int
  | 9 => .long
  | 10 => .int
  | 11 => .int
  | 12 => .int
  | 13 => .int
  | 14 => .int
  | 15 => .int
  | 16 => .int
  | 17 => .int
  | 18 => .int
  | 19 => .int
  | 20 => .int
  | 21 => .array .int
  | 22 => .array .int
  | 23 => .array .int
  | 24 => .array .int
  | 25 => .array .int
  | 26 => .array .boolean
  | 27 => .array .boolean
  | 28 => .array .boolean
  | 29 => .array .int
  | 30 => .array .int
  | 31 => .array .int
  | 32 => .array .int
  | 33 => .array .int
  | 34 => .array .int
  | 35 => .array .int
  | 36 => .array .boolean
  | 37 => .boolean
  | 38 => .int
  | 39 => .array .int
  | 40 => .array .int
  | 41 => .array .int
  | 42 => .boolean
  | 43 => .boolean
  | 44 => .boolean
  | 45 => .array .int
  | 46 => .array .int
  | 47 => .array .int
  | 48 => .array .int
  | 49 => .array .int
  | 50 => .int
  | 51 => .int
  | 52 => .int
  | 53 => .int
  | 54 => .int
  | 55 => .array .int
  | 56 => .array .int
  | 57 => .array .int
  | 58 => .int
  | 59 => .array .int
  | 60 => .array .int
  | 61 => .array .int
  | 62 => .array .int
  | _ => .array .int
theorem pm_nm6 : ∀ a, a < 64 → ∀ b, b < 64 → a ≠ b → (pm_T6 a).2.1 ≠ (pm_T6 b).2.1 := by decide +kernel
theorem pm_ty6 : ∀ k, k < 64 → parseFieldDescriptor (pm_T6 k).2.2.1 = some (pm_y6 k) := by decide +kernel
abbrev pm_cl : List vw_C := [(pm_R0, pm_T0, 10), (pm_R1, pm_T1, 5), (pm_R2, pm_T2, 9), (pm_R3, pm_T3, 16), (pm_R4, pm_T4, 9), (pm_R5, pm_T5, 11), (pm_R6, pm_T6, 64)]
def pm_ft (ci : Nat) : List FieldType := match ci with
  | 0 => [.object "QuietChecker$Program", .array .int, .array .int, .int, .int, .int, .array .int, .int, .int, .int]
  | 1 => [.array .char, .array .int, .array .int, .array .boolean, .int]
  | 2 => [.object "QuietChecker$Program", .object "QuietChecker$Tokens", .object "QuietChecker$Names", .boolean, .int, .int, .int, .object "QuietChecker$Kind", .int]
  | 3 => [.array .char, .int, .object "QuietChecker$Names", .array .int, .array .int, .int, .object "QuietChecker$Names", .array .int, .array .int, .array .boolean, .array .int, .array .int, .int, .int, .int, .boolean]
  | 4 => [.array (.object "QuietChecker$Kind"), .array .int, .array .int, .array .int, .int, .array .char, .int, .int, .int]
  | 5 => [.array .char, .int, .object "QuietChecker$Program", .object "QuietChecker$Parser", .array .int, .array .int, .object "QuietChecker$Machine", .object "QuietChecker$Machine", .int, .boolean, .int]
  | 6 => [.int, .array .char, .array .char, .int, .int, .int, .int, .int, .int, .long, .int, .int, .int, .int, .int, .int, .int, .int, .int, .int, .int, .array .int, .array .int, .array .int, .array .int, .array .int, .array .boolean, .array .boolean, .array .boolean, .array .int, .array .int, .array .int, .array .int, .array .int, .array .int, .array .int, .array .boolean, .boolean, .int, .array .int, .array .int, .array .int, .boolean, .boolean, .boolean, .array .int, .array .int, .array .int, .array .int, .array .int, .int, .int, .int, .int, .int, .array .int, .array .int, .array .int, .int, .array .int, .array .int, .array .int, .array .int, .array .int]
  | _ => []
def pm_own : List String := ["QuietChecker$Machine", "QuietChecker$Names", "QuietChecker$Parser", "QuietChecker$Program", "QuietChecker$Tokens", "QuietChecker", "QuietCheckerModel", "QuietChecker$Kind", "java/lang/String", "java/lang/StringLatin1", "java/util/Arrays", "java/lang/Math", "QuietCheckerLaw"]
def pm_on (k : Nat) : String := pm_own.getD k ""
def pm_mt : List (Nat × MethodName × ByteArray × Nat × Option FieldType × Bool × Nat) := [
  (6, ⟨"QuietCheckerModel", "thrown", "()I"⟩, prog_10_method_2_code, 1, (some .int), false, 0),
  (6, ⟨"QuietCheckerModel", "fails", "(ZZ)Z"⟩, prog_10_method_3_code, 3, (some .boolean), false, 2),
  (6, ⟨"QuietCheckerModel", "feed", "(JI)Z"⟩, prog_10_method_4_code, 8, (some .boolean), false, 2),
  (6, ⟨"QuietCheckerModel", "isLetter", "(I)Z"⟩, prog_10_method_5_code, 1, (some .boolean), true, 1),
  (6, ⟨"QuietCheckerModel", "isDigit", "(I)Z"⟩, prog_10_method_6_code, 1, (some .boolean), true, 1),
  (6, ⟨"QuietCheckerModel", "charAt", "(I)I"⟩, prog_10_method_7_code, 2, (some .int), false, 1),
  (6, ⟨"QuietCheckerModel", "next", "()V"⟩, prog_10_method_8_code, 3, none, false, 0),
  (6, ⟨"QuietCheckerModel", "digits", "()V"⟩, prog_10_method_9_code, 1, none, false, 0),
  (6, ⟨"QuietCheckerModel", "word", "()V"⟩, prog_10_method_10_code, 3, none, false, 0),
  (6, ⟨"QuietCheckerModel", "sign", "(I)V"⟩, prog_10_method_11_code, 5, none, false, 1),
  (6, ⟨"QuietCheckerModel", "fail", "(I)V"⟩, prog_10_method_12_code, 2, none, false, 1),
  (6, ⟨"QuietCheckerModel", "meets", "(I)Z"⟩, prog_10_method_13_code, 2, (some .boolean), false, 1),
  (6, ⟨"QuietCheckerModel", "must", "(I)V"⟩, prog_10_method_14_code, 2, none, false, 1),
  (6, ⟨"QuietCheckerModel", "forbid", "(II)V"⟩, prog_10_method_15_code, 3, none, false, 2),
  (6, ⟨"QuietCheckerModel", "same", "(IIII)Z"⟩, prog_10_method_16_code, 7, (some .boolean), false, 4),
  (6, ⟨"QuietCheckerModel", "find", "([I[II)I"⟩, prog_10_method_17_code, 6, (some .int), false, 3),
  (6, ⟨"QuietCheckerModel", "say", "(III)V"⟩, prog_10_method_18_code, 4, none, false, 3),
  (6, ⟨"QuietCheckerModel", "deeper", "()V"⟩, prog_10_method_19_code, 1, none, false, 0),
  (6, ⟨"QuietCheckerModel", "label0", "()V"⟩, prog_10_method_20_code, 1, none, false, 0),
  (6, ⟨"QuietCheckerModel", "top", "()V"⟩, prog_10_method_21_code, 4, none, false, 0),
  (6, ⟨"QuietCheckerModel", "own", "()V"⟩, prog_10_method_22_code, 1, none, false, 0),
  (6, ⟨"QuietCheckerModel", "wait", "(IIIII)V"⟩, prog_10_method_23_code, 6, none, false, 5),
  (6, ⟨"QuietCheckerModel", "plain", "(I)V"⟩, prog_10_method_24_code, 2, none, false, 1),
  (6, ⟨"QuietCheckerModel", "goOn", "()V"⟩, prog_10_method_25_code, 6, none, false, 0),
  (6, ⟨"QuietCheckerModel", "rows", "(IIII)V"⟩, prog_10_method_26_code, 6, none, false, 4),
  (6, ⟨"QuietCheckerModel", "expressions", "(IIIII)V"⟩, prog_10_method_27_code, 7, none, false, 5),
  (6, ⟨"QuietCheckerModel", "told", "(I)V"⟩, prog_10_method_28_code, 2, none, false, 1),
  (6, ⟨"QuietCheckerModel", "function", "()V"⟩, prog_10_method_29_code, 3, none, false, 0),
  (6, ⟨"QuietCheckerModel", "functionEnd", "(III)V"⟩, prog_10_method_30_code, 4, none, false, 3),
  (6, ⟨"QuietCheckerModel", "begins", "()Z"⟩, prog_10_method_31_code, 1, (some .boolean), false, 0),
  (6, ⟨"QuietCheckerModel", "statement", "()V"⟩, prog_10_method_32_code, 3, none, false, 0),
  (6, ⟨"QuietCheckerModel", "branch", "(I)I"⟩, prog_10_method_33_code, 2, (some .int), false, 1),
  (6, ⟨"QuietCheckerModel", "block", "()V"⟩, prog_10_method_34_code, 1, none, false, 0),
  (6, ⟨"QuietCheckerModel", "ifDone", "(I)V"⟩, prog_10_method_35_code, 2, none, false, 1),
  (6, ⟨"QuietCheckerModel", "named", "(Z)I"⟩, prog_10_method_36_code, 4, (some .int), false, 1),
  (6, ⟨"QuietCheckerModel", "ahead", "()I"⟩, prog_10_method_37_code, 3, (some .int), false, 0),
  (6, ⟨"QuietCheckerModel", "assignment", "()V"⟩, prog_10_method_38_code, 3, none, false, 0),
  (6, ⟨"QuietCheckerModel", "assigned", "(IZI)V"⟩, prog_10_method_39_code, 5, none, false, 3),
  (6, ⟨"QuietCheckerModel", "index", "()V"⟩, prog_10_method_40_code, 2, none, false, 0),
  (6, ⟨"QuietCheckerModel", "asked", "()V"⟩, prog_10_method_41_code, 2, none, false, 0),
  (6, ⟨"QuietCheckerModel", "first", "(Z)V"⟩, prog_10_method_42_code, 3, none, false, 1),
  (6, ⟨"QuietCheckerModel", "levelOf", "(I)I"⟩, prog_10_method_43_code, 1, (some .int), true, 1),
  (6, ⟨"QuietCheckerModel", "levelOn", "(I)V"⟩, prog_10_method_44_code, 2, none, false, 1),
  (6, ⟨"QuietCheckerModel", "single", "()V"⟩, prog_10_method_45_code, 2, none, false, 0),
  (6, ⟨"QuietCheckerModel", "called", "()V"⟩, prog_10_method_46_code, 3, none, false, 0),
  (6, ⟨"QuietCheckerModel", "call", "()V"⟩, prog_10_method_47_code, 2, none, false, 0),
  (6, ⟨"QuietCheckerModel", "given", "(III)V"⟩, prog_10_method_48_code, 4, none, false, 3),
  (6, ⟨"QuietCheckerModel", "callEnd", "(II)V"⟩, prog_10_method_49_code, 3, none, false, 2),
  (6, ⟨"QuietCheckerModel", "check", "()I"⟩, prog_10_method_50_code, 2, (some .int), false, 0),
  (6, ⟨"QuietCheckerModel", "cellOf", "(II)I"⟩, prog_10_method_51_code, 4, (some .int), false, 2),
  (6, ⟨"QuietCheckerModel", "put", "(III)V"⟩, prog_10_method_52_code, 4, none, false, 3),
  (6, ⟨"QuietCheckerModel", "worked", "(III)I"⟩, prog_10_method_53_code, 3, (some .int), true, 3),
  (6, ⟨"QuietCheckerModel", "tell", "(I)V"⟩, prog_10_method_54_code, 2, none, false, 1),
  (6, ⟨"QuietCheckerModel", "cell", "(II)I"⟩, prog_10_method_55_code, 3, (some .int), false, 2),
  (6, ⟨"QuietCheckerModel", "go", "(I)V"⟩, prog_10_method_56_code, 10, none, false, 1),
  (6, ⟨"QuietCheckerModel", "run", "(I)I"⟩, prog_10_method_57_code, 3, (some .int), false, 1),
  (6, ⟨"QuietCheckerModel", "disguise", "(I)V"⟩, prog_10_method_58_code, 6, none, false, 1),
  (6, ⟨"QuietCheckerModel", "twin", "(I)I"⟩, prog_10_method_59_code, 8, (some .int), false, 1),
  (6, ⟨"QuietCheckerModel", "value", "(II)I"⟩, prog_10_method_60_code, 3, (some .int), false, 2),
  (6, ⟨"QuietCheckerModel", "note", "(I)I"⟩, prog_10_method_61_code, 2, (some .int), false, 1),
  (6, ⟨"QuietCheckerModel", "letter", "(IZI)C"⟩, prog_10_method_62_code, 6, (some .char), false, 3),
  (6, ⟨"QuietCheckerModel", "count", "(I)I"⟩, prog_10_method_63_code, 2, (some .int), false, 1),
  (1, ⟨"QuietChecker$Names", "clear", "()V"⟩, prog_4_method_2_code, 1, none, false, 0),
  (1, ⟨"QuietChecker$Names", "isFull", "()Z"⟩, prog_4_method_3_code, 1, (some .boolean), false, 0),
  (1, ⟨"QuietChecker$Names", "has", "(I)Z"⟩, prog_4_method_4_code, 2, (some .boolean), false, 1),
  (1, ⟨"QuietChecker$Names", "add", "(IIZ)V"⟩, prog_4_method_5_code, 4, none, false, 3),
  (1, ⟨"QuietChecker$Names", "find", "(II)I"⟩, prog_4_method_6_code, 4, (some .int), false, 2),
  (1, ⟨"QuietChecker$Names", "sameLetters", "(III)Z"⟩, prog_4_method_7_code, 5, (some .boolean), false, 3),
  (1, ⟨"QuietChecker$Names", "isSecret", "(I)Z"⟩, prog_4_method_8_code, 2, (some .boolean), false, 1),
  (1, ⟨"QuietChecker$Names", "secretOnes", "()I"⟩, prog_4_method_9_code, 3, (some .int), false, 0),
  (1, ⟨"QuietChecker$Names", "hasCharacter", "(II)Z"⟩, prog_4_method_10_code, 3, (some .boolean), false, 2),
  (1, ⟨"QuietChecker$Names", "character", "(II)C"⟩, prog_4_method_11_code, 3, (some .char), false, 2),
  (3, ⟨"QuietChecker$Program", "cell", "(II)I"⟩, prog_7_method_2_code, 2, (some .int), true, 2),
  (3, ⟨"QuietChecker$Program", "local", "(II)I"⟩, prog_7_method_3_code, 2, (some .int), true, 2),
  (3, ⟨"QuietChecker$Program", "take", "([CI)V"⟩, prog_7_method_4_code, 3, none, false, 2),
  (3, ⟨"QuietChecker$Program", "clear", "()V"⟩, prog_7_method_5_code, 1, none, false, 0),
  (3, ⟨"QuietChecker$Program", "addTop", "(IIZI)V"⟩, prog_7_method_6_code, 5, none, false, 4),
  (3, ⟨"QuietChecker$Program", "beginFunction", "(LQuietChecker$Names;)V"⟩, prog_7_method_7_code, 3, none, false, 1),
  (3, ⟨"QuietChecker$Program", "isArray", "(I)Z"⟩, prog_7_method_8_code, 2, (some .boolean), false, 1),
  (3, ⟨"QuietChecker$Program", "hasCell", "(II)Z"⟩, prog_7_method_9_code, 3, (some .boolean), false, 2),
  (3, ⟨"QuietChecker$Program", "cellsOf", "(I)I"⟩, prog_7_method_10_code, 2, (some .int), false, 1),
  (3, ⟨"QuietChecker$Program", "parametersOf", "(I)I"⟩, prog_7_method_11_code, 2, (some .int), false, 1),
  (3, ⟨"QuietChecker$Program", "takesSecret", "(II)Z"⟩, prog_7_method_12_code, 3, (some .boolean), false, 2),
  (3, ⟨"QuietChecker$Program", "emit", "(II)I"⟩, prog_7_method_13_code, 3, (some .int), false, 2),
  (3, ⟨"QuietChecker$Program", "aim", "(I)V"⟩, prog_7_method_14_code, 2, none, false, 1),
  (7, ⟨"QuietChecker$Kind", "startsStatement", "()Z"⟩, prog_2_method_5_code, 1, (some .boolean), false, 0),
  (7, ⟨"QuietChecker$Kind", "tellsName", "()Z"⟩, prog_2_method_6_code, 1, (some .boolean), false, 0),
  (7, ⟨"QuietChecker$Kind", "isLabel", "()Z"⟩, prog_2_method_7_code, 1, (some .boolean), false, 0),
  (7, ⟨"QuietChecker$Kind", "prefixOp", "()I"⟩, prog_2_method_8_code, 1, (some .int), false, 0),
  (4, ⟨"QuietChecker$Tokens", "scan", "(I)V"⟩, prog_8_method_2_code, 5, none, false, 1),
  (4, ⟨"QuietChecker$Tokens", "add", "(LQuietChecker$Kind;I)V"⟩, prog_8_method_3_code, 3, none, false, 2),
  (4, ⟨"QuietChecker$Tokens", "skipBlanks", "()V"⟩, prog_8_method_4_code, 3, none, false, 0),
  (4, ⟨"QuietChecker$Tokens", "scanToken", "()LQuietChecker$Kind;"⟩, prog_8_method_5_code, 1, (some (.object "QuietChecker$Kind")), false, 0),
  (4, ⟨"QuietChecker$Tokens", "scanNumber", "()LQuietChecker$Kind;"⟩, prog_8_method_6_code, 4, (some (.object "QuietChecker$Kind")), false, 0),
  (4, ⟨"QuietChecker$Tokens", "scanWord", "()LQuietChecker$Kind;"⟩, prog_8_method_7_code, 7, (some (.object "QuietChecker$Kind")), false, 0),
  (4, ⟨"QuietChecker$Tokens", "scanSign", "()LQuietChecker$Kind;"⟩, prog_8_method_8_code, 7, (some (.object "QuietChecker$Kind")), false, 0),
  (4, ⟨"QuietChecker$Tokens", "isAt", "(ILjava/lang/String;)Z"⟩, prog_8_method_9_code, 4, (some .boolean), false, 2),
  (4, ⟨"QuietChecker$Tokens", "isDigit", "(C)Z"⟩, prog_8_method_10_code, 1, (some .boolean), true, 1),
  (4, ⟨"QuietChecker$Tokens", "isWordPart", "(C)Z"⟩, prog_8_method_11_code, 1, (some .boolean), true, 1),
  (2, ⟨"QuietChecker$Parser", "parse", "()I"⟩, prog_6_method_2_code, 2, (some .int), false, 0),
  (2, ⟨"QuietChecker$Parser", "goTo", "(I)V"⟩, prog_6_method_3_code, 2, none, false, 1),
  (2, ⟨"QuietChecker$Parser", "advance", "()V"⟩, prog_6_method_4_code, 1, none, false, 0),
  (2, ⟨"QuietChecker$Parser", "expect", "(LQuietChecker$Kind;)V"⟩, prog_6_method_5_code, 2, none, false, 1),
  (2, ⟨"QuietChecker$Parser", "fail", "(II)V"⟩, prog_6_method_6_code, 3, none, false, 2),
  (2, ⟨"QuietChecker$Parser", "tellLeak", "(II)V"⟩, prog_6_method_7_code, 4, none, false, 2),
  (2, ⟨"QuietChecker$Parser", "mayOpen", "(II)Z"⟩, prog_6_method_8_code, 3, (some .boolean), false, 2),
  (2, ⟨"QuietChecker$Parser", "label", "()Z"⟩, prog_6_method_9_code, 2, (some .boolean), false, 0),
  (2, ⟨"QuietChecker$Parser", "newName", "(LQuietChecker$Names;)I"⟩, prog_6_method_10_code, 3, (some .int), false, 1),
  (2, ⟨"QuietChecker$Parser", "declaration", "()V"⟩, prog_6_method_11_code, 4, none, false, 0),
  (2, ⟨"QuietChecker$Parser", "arraySize", "()I"⟩, prog_6_method_12_code, 2, (some .int), false, 0),
  (2, ⟨"QuietChecker$Parser", "function", "()V"⟩, prog_6_method_13_code, 4, none, false, 0),
  (2, ⟨"QuietChecker$Parser", "parameters", "()V"⟩, prog_6_method_14_code, 2, none, false, 0),
  (2, ⟨"QuietChecker$Parser", "local", "()V"⟩, prog_6_method_15_code, 3, none, false, 0),
  (2, ⟨"QuietChecker$Parser", "statements", "(I)V"⟩, prog_6_method_16_code, 3, none, false, 1),
  (2, ⟨"QuietChecker$Parser", "statement", "(I)V"⟩, prog_6_method_17_code, 4, none, false, 1),
  (2, ⟨"QuietChecker$Parser", "assignment", "(I)V"⟩, prog_6_method_18_code, 6, none, false, 1),
  (2, ⟨"QuietChecker$Parser", "branch", "(II)V"⟩, prog_6_method_19_code, 5, none, false, 2),
  (2, ⟨"QuietChecker$Parser", "repetition", "(II)V"⟩, prog_6_method_20_code, 5, none, false, 2),
  (2, ⟨"QuietChecker$Parser", "condition", "(II)V"⟩, prog_6_method_21_code, 3, none, false, 2),
  (2, ⟨"QuietChecker$Parser", "block", "(I)V"⟩, prog_6_method_22_code, 2, none, false, 1),
  (2, ⟨"QuietChecker$Parser", "index", "(I)V"⟩, prog_6_method_23_code, 3, none, false, 1),
  (2, ⟨"QuietChecker$Parser", "expression", "(I)Z"⟩, prog_6_method_24_code, 3, (some .boolean), false, 1),
  (2, ⟨"QuietChecker$Parser", "binary", "(II)Z"⟩, prog_6_method_25_code, 7, (some .boolean), false, 2),
  (2, ⟨"QuietChecker$Parser", "prefixed", "(I)Z"⟩, prog_6_method_26_code, 4, (some .boolean), false, 1),
  (2, ⟨"QuietChecker$Parser", "operand", "(I)Z"⟩, prog_6_method_27_code, 3, (some .boolean), false, 1),
  (2, ⟨"QuietChecker$Parser", "named", "(I)Z"⟩, prog_6_method_28_code, 5, (some .boolean), false, 1),
  (2, ⟨"QuietChecker$Parser", "call", "(II)Z"⟩, prog_6_method_29_code, 5, (some .boolean), false, 2),
  (2, ⟨"QuietChecker$Parser", "arguments", "(II)I"⟩, prog_6_method_30_code, 5, (some .int), false, 2),
  (2, ⟨"QuietChecker$Parser", "argument", "(III)V"⟩, prog_6_method_31_code, 5, none, false, 3),
  (2, ⟨"QuietChecker$Parser", "known", "(IZ)I"⟩, prog_6_method_32_code, 6, (some .int), false, 2),
  (2, ⟨"QuietChecker$Parser", "isSecret", "(I)Z"⟩, prog_6_method_33_code, 2, (some .boolean), false, 1),
  (2, ⟨"QuietChecker$Parser", "cellOfVariable", "(I)I"⟩, prog_6_method_34_code, 2, (some .int), false, 1),
  (0, ⟨"QuietChecker$Machine", "load", "([I)V"⟩, prog_3_method_2_code, 2, none, false, 1),
  (0, ⟨"QuietChecker$Machine", "disturbSecrets", "(I)V"⟩, prog_3_method_3_code, 4, none, false, 1),
  (0, ⟨"QuietChecker$Machine", "disturbCells", "(III)I"⟩, prog_3_method_4_code, 6, (some .int), false, 3),
  (0, ⟨"QuietChecker$Machine", "execute", "(I)V"⟩, prog_3_method_5_code, 7, none, false, 1),
  (0, ⟨"QuietChecker$Machine", "firstDifference", "(LQuietChecker$Machine;)I"⟩, prog_3_method_6_code, 4, (some .int), false, 1),
  (0, ⟨"QuietChecker$Machine", "perform", "(II)V"⟩, prog_3_method_7_code, 3, none, false, 2),
  (0, ⟨"QuietChecker$Machine", "performOnStack", "(II)V"⟩, prog_3_method_8_code, 5, none, false, 2),
  (0, ⟨"QuietChecker$Machine", "combine", "(III)I"⟩, prog_3_method_9_code, 3, (some .int), true, 3),
  (0, ⟨"QuietChecker$Machine", "divide", "(IIZ)V"⟩, prog_3_method_10_code, 4, none, false, 3),
  (0, ⟨"QuietChecker$Machine", "held", "(I)I"⟩, prog_3_method_11_code, 2, (some .int), false, 1),
  (0, ⟨"QuietChecker$Machine", "hold", "(II)V"⟩, prog_3_method_12_code, 3, none, false, 2),
  (0, ⟨"QuietChecker$Machine", "step", "()V"⟩, prog_3_method_13_code, 1, none, false, 0),
  (0, ⟨"QuietChecker$Machine", "jot", "(I)Z"⟩, prog_3_method_14_code, 2, (some .boolean), false, 1),
  (0, ⟨"QuietChecker$Machine", "touch", "(II)Z"⟩, prog_3_method_15_code, 3, (some .boolean), false, 2),
  (0, ⟨"QuietChecker$Machine", "readCell", "(I)V"⟩, prog_3_method_16_code, 3, none, false, 1),
  (0, ⟨"QuietChecker$Machine", "writeCell", "(I)V"⟩, prog_3_method_17_code, 4, none, false, 1),
  (0, ⟨"QuietChecker$Machine", "enter", "(I)V"⟩, prog_3_method_18_code, 4, none, false, 1),
  (0, ⟨"QuietChecker$Machine", "leave", "()V"⟩, prog_3_method_19_code, 2, none, false, 0),
  (0, ⟨"QuietChecker$Machine", "push", "(I)V"⟩, prog_3_method_20_code, 2, none, false, 1),
  (0, ⟨"QuietChecker$Machine", "pop", "()I"⟩, prog_3_method_21_code, 1, (some .int), false, 0),
  (5, ⟨"QuietChecker", "feed", "(JI)Z"⟩, prog_1_method_2_code, 5, (some .boolean), false, 2),
  (5, ⟨"QuietChecker", "check", "()I"⟩, prog_1_method_3_code, 2, (some .int), false, 0),
  (5, ⟨"QuietChecker", "put", "(III)V"⟩, prog_1_method_4_code, 4, none, false, 3),
  (5, ⟨"QuietChecker", "run", "(I)I"⟩, prog_1_method_5_code, 2, (some .int), false, 1),
  (5, ⟨"QuietChecker", "twin", "(I)I"⟩, prog_1_method_6_code, 2, (some .int), false, 1),
  (5, ⟨"QuietChecker", "value", "(II)I"⟩, prog_1_method_7_code, 3, (some .int), false, 2),
  (5, ⟨"QuietChecker", "note", "(I)I"⟩, prog_1_method_8_code, 2, (some .int), false, 1),
  (5, ⟨"QuietChecker", "letter", "(IZI)C"⟩, prog_1_method_9_code, 5, (some .char), false, 3),
  (5, ⟨"QuietChecker", "count", "(I)I"⟩, prog_1_method_10_code, 2, (some .int), false, 1),
  (5, ⟨"QuietChecker", "byteOf", "(JI)C"⟩, prog_1_method_11_code, 3, (some .char), true, 2),
  (5, ⟨"QuietChecker", "mayStandInText", "(C)Z"⟩, prog_1_method_12_code, 1, (some .boolean), true, 1),
  (8, ⟨"java/lang/String", "length", "()I"⟩, prog_22_method_54_code, 1, (some .int), false, 0),
  (8, ⟨"java/lang/String", "charAt", "(I)C"⟩, prog_22_method_56_code, 2, (some .char), false, 1),
  (8, ⟨"java/lang/String", "coder", "()B"⟩, prog_22_method_152_code, 1, (some .byte), false, 0),
  (8, ⟨"java/lang/String", "isLatin1", "()Z"⟩, prog_22_method_154_code, 1, (some .boolean), false, 0),
  (9, ⟨"java/lang/StringLatin1", "charAt", "([BI)C"⟩, prog_24_method_2_code, 2, (some .char), true, 2),
  (10, ⟨"java/util/Arrays", "rangeCheck", "(III)V"⟩, prog_28_method_30_code, 3, none, true, 3),
  (10, ⟨"java/util/Arrays", "fill", "([II)V"⟩, prog_28_method_103_code, 4, none, true, 2),
  (10, ⟨"java/util/Arrays", "fill", "([IIII)V"⟩, prog_28_method_104_code, 5, none, true, 4),
  (11, ⟨"java/lang/Math", "max", "(II)I"⟩, prog_20_method_65_code, 2, (some .int), true, 2),
  (11, ⟨"java/lang/Math", "min", "(II)I"⟩, prog_20_method_69_code, 2, (some .int), true, 2),
  (12, ⟨"QuietCheckerLaw", "law", "([I)Z"⟩, code, 7, (some .boolean), false, 1),
  (12, ⟨"QuietCheckerLaw", "put", "(LQuietChecker;III)I"⟩, method_3_code, 5, (some .int), true, 4),
  (12, ⟨"QuietCheckerLaw", "run", "(LQuietChecker;I[J)I"⟩, method_4_code, 4, (some .int), true, 3),
  (12, ⟨"QuietCheckerLaw", "twin", "(LQuietChecker;I[J)I"⟩, method_5_code, 4, (some .int), true, 3),
  (12, ⟨"QuietCheckerLaw", "value", "(LQuietChecker;II[J)I"⟩, method_6_code, 5, (some .int), true, 4),
  (12, ⟨"QuietCheckerLaw", "note", "(LQuietChecker;I[J)I"⟩, method_7_code, 4, (some .int), true, 3),
  (12, ⟨"QuietCheckerLaw", "letter", "(LQuietChecker;IZI[J)I"⟩, method_8_code, 6, (some .int), true, 5)]
def pm_m (mi : Nat) : Nat × MethodName × ByteArray × Nat × Option FieldType × Bool × Nat := pm_mt.getD mi (0, ⟨"", "", ""⟩, ⟨#[]⟩, 0, none, false, 0)
def pm_ow (mi : Nat) : Nat := (pm_m mi).1
def pm_nm (mi : Nat) : MethodName := (pm_m mi).2.1
def pm_by (mi : Nat) : ByteArray := (pm_m mi).2.2.1
def pm_mx (mi : Nat) : Nat := (pm_m mi).2.2.2.1
def pm_rt (mi : Nat) : Option FieldType := (pm_m mi).2.2.2.2.1
def pm_sc (mi : Nat) : Bool := (pm_m mi).2.2.2.2.2.1
def pm_np (mi : Nat) : Nat := (pm_m mi).2.2.2.2.2.2
/-- where the words on each method stand in lw_tbl: its code; instance or static; selects; its owner is initialised -/
def pm_mp : List (Nat × Nat × Nat × Nat) := [(1522, 1520, 1521, 113), (1736, 1735, 99, 113), (1526, 1524, 1525, 113), (1555, 1554, 0, 113), (1545, 1544, 0, 113), (1542, 1541, 57, 113), (1538, 1537, 56, 113), (1549, 1548, 58, 113), (1559, 1558, 59, 113), (1572, 1571, 60, 113), (1608, 1607, 69, 113), (1620, 1619, 72, 113), (1625, 1624, 73, 113), (1641, 1640, 77, 113), (1616, 1615, 71, 113), (1612, 1611, 70, 113), (1576, 1575, 61, 113), (1665, 1664, 83, 113), (1604, 1603, 68, 113), (1600, 1599, 67, 113), (1633, 1632, 75, 113), (1584, 1583, 63, 113), (1580, 1579, 62, 113), (1588, 1587, 64, 113), (1592, 1591, 65, 113), (1681, 1680, 87, 113), (1596, 1595, 66, 113), (1629, 1628, 74, 113), (1637, 1636, 76, 113), (1645, 1644, 78, 113), (1649, 1648, 79, 113), (1669, 1668, 84, 113), (1673, 1672, 85, 113), (1677, 1676, 86, 113), (1661, 1660, 82, 113), (1657, 1656, 81, 113), (1653, 1652, 80, 113), (1685, 1684, 88, 113), (1689, 1688, 89, 113), (1693, 1692, 90, 113), (1697, 1696, 91, 113), (1720, 1719, 0, 113), (1717, 1716, 96, 113), (1701, 1700, 92, 113), (1705, 1704, 93, 113), (1709, 1708, 94, 113), (1724, 1723, 97, 113), (1713, 1712, 95, 113), (1534, 1532, 1533, 113), (1732, 1731, 98, 113), (1728, 1726, 1727, 113), (1755, 1754, 0, 113), (1752, 1751, 102, 113), (1748, 1747, 101, 113), (1744, 1743, 100, 113), (1740, 1738, 1739, 113), (1763, 1762, 103, 113), (1759, 1757, 1758, 113), (1767, 1765, 1766, 113), (1771, 1769, 1770, 113), (1775, 1773, 1774, 113), (1779, 1777, 1778, 113), (439, 437, 438, 107), (595, 593, 594, 107), (628, 626, 627, 107), (612, 610, 611, 107), (587, 585, 586, 107), (591, 590, 14, 107), (624, 622, 623, 107), (811, 809, 810, 107), (1314, 1312, 1313, 107), (1318, 1316, 1317, 107), (742, 741, 0, 106), (745, 744, 0, 106), (418, 416, 417, 106), (435, 433, 434, 106), (802, 800, 801, 106), (619, 617, 618, 106), (666, 664, 665, 106), (889, 887, 888, 106), (893, 891, 892, 106), (729, 727, 728, 106), (725, 723, 724, 106), (675, 673, 674, 106), (783, 781, 782, 106), (641, 639, 640, 111), (545, 543, 544, 111), (551, 549, 550, 111), (695, 693, 694, 111), (443, 441, 442, 109), (536, 535, 6, 109), (448, 447, 0, 109), (452, 451, 1, 109), (459, 458, 2, 109), (472, 471, 3, 109), (532, 531, 5, 109), (488, 487, 4, 109), (455, 454, 0, 109), (464, 463, 0, 109), (431, 429, 430, 108), (541, 540, 7, 108), (564, 563, 9, 108), (574, 573, 11, 108), (578, 577, 12, 108), (733, 732, 31, 108), (671, 670, 21, 108), (568, 567, 10, 108), (582, 581, 13, 108), (794, 793, 38, 108), (798, 797, 39, 108), (560, 559, 8, 108), (600, 599, 15, 108), (608, 607, 16, 108), (637, 636, 17, 108), (652, 651, 18, 108), (656, 655, 19, 108), (767, 766, 34, 108), (788, 787, 37, 108), (771, 770, 35, 108), (775, 774, 36, 108), (679, 678, 22, 108), (683, 682, 23, 108), (687, 686, 24, 108), (691, 690, 25, 108), (705, 704, 26, 108), (709, 708, 27, 108), (713, 712, 28, 108), (717, 716, 29, 108), (721, 720, 30, 108), (662, 661, 20, 108), (749, 748, 33, 108), (739, 738, 32, 108), (940, 938, 939, 112), (1279, 1277, 1278, 112), (1284, 1283, 55, 112), (946, 944, 945, 112), (1289, 1287, 1288, 112), (951, 950, 41, 112), (1261, 1260, 53, 112), (1268, 1267, 0, 112), (1265, 1264, 54, 112), (963, 962, 44, 112), (971, 970, 46, 112), (955, 954, 42, 112), (985, 984, 49, 112), (979, 978, 48, 112), (975, 974, 47, 112), (989, 988, 50, 112), (993, 992, 51, 112), (1257, 1256, 52, 112), (959, 958, 43, 112), (967, 966, 45, 112), (403, 401, 402, 105), (414, 412, 413, 105), (820, 818, 819, 105), (920, 918, 919, 105), (1275, 1273, 1274, 105), (1296, 1294, 1295, 105), (1303, 1301, 1302, 105), (1310, 1308, 1309, 105), (807, 805, 806, 105), (406, 405, 0, 105), (410, 409, 0, 105), (478, 476, 477, 117), (492, 490, 491, 117), (482, 480, 481, 117), (496, 494, 495, 117), (499, 498, 0, 118), (1001, 1000, 0, 116), (427, 426, 0, 116), (998, 997, 0, 116), (896, 895, 0, 114), (421, 420, 0, 114)]
/-- fields by owner and place in its pool: (place, class, slot, where the word stands) -/
def pm_gfl : List (List (Nat × Nat × Nat × Nat)) := [
  [(9, 0, 0, 330), (17, 0, 1, 331), (21, 0, 2, 333), (24, 0, 6, 341), (39, 3, 2, 180), (43, 1, 4, 157), (64, 0, 9, 344), (67, 0, 3, 335), (70, 0, 4, 337), (73, 0, 7, 342), (76, 3, 13, 204), (79, 0, 8, 343), (82, 0, 5, 339), (87, 3, 12, 202), (90, 3, 10, 197), (93, 3, 11, 199), (148, 3, 4, 185), (154, 3, 6, 191), (172, 3, 7, 193)],
  [(9, 1, 0, 152), (15, 1, 1, 153), (19, 1, 2, 154), (22, 1, 3, 155), (26, 1, 4, 156)],
  [(11, 2, 0, 296), (19, 3, 0, 176), (26, 2, 1, 297), (35, 2, 2, 298), (45, 2, 7, 303), (51, 2, 3, 299), (55, 2, 4, 300), (59, 2, 5, 301), (62, 3, 1, 177), (85, 3, 12, 200), (88, 3, 13, 203), (98, 3, 15, 209), (101, 4, 4, 268), (104, 2, 6, 302), (107, 4, 0, 260), (111, 4, 1, 262), (115, 2, 8, 304), (131, 4, 2, 264), (147, 3, 2, 182), (168, 4, 3, 266), (177, 3, 6, 190), (231, 3, 14, 208), (340, 1, 4, 160)],
  [(11, 3, 0, 175), (20, 3, 2, 179), (24, 3, 3, 183), (28, 3, 4, 184), (31, 3, 6, 188), (34, 3, 7, 192), (37, 3, 8, 194), (40, 3, 9, 195), (44, 3, 10, 196), (47, 3, 11, 198), (56, 3, 1, 178), (69, 3, 5, 186), (72, 3, 12, 201), (75, 3, 13, 205), (78, 3, 14, 206), (81, 3, 15, 211), (89, 1, 4, 158)],
  [(9, 4, 5, 269), (17, 4, 0, 259), (21, 4, 1, 261), (25, 4, 2, 263), (28, 4, 3, 265), (37, 4, 6, 270), (41, 4, 4, 267), (44, 4, 7, 271), (65, 4, 8, 272)],
  [(9, 5, 0, 366), (16, 5, 2, 368), (25, 5, 3, 369), (29, 5, 4, 370), (33, 5, 5, 371), (39, 5, 6, 372), (43, 5, 7, 373), (46, 5, 1, 367), (62, 5, 9, 375), (76, 5, 10, 376), (79, 3, 15, 210), (105, 5, 8, 374), (116, 0, 5, 340), (126, 0, 1, 332), (129, 0, 3, 336), (132, 0, 2, 334), (135, 3, 6, 189), (139, 3, 2, 181), (151, 1, 4, 159), (157, 3, 5, 187), (160, 3, 14, 207), (163, 0, 4, 338)],
  [(7, 6, 1, 1327), (13, 6, 2, 1328), (16, 6, 21, 1347), (20, 6, 22, 1348), (23, 6, 23, 1349), (26, 6, 24, 1350), (29, 6, 25, 1351), (32, 6, 26, 1352), (36, 6, 27, 1353), (39, 6, 28, 1354), (42, 6, 29, 1355), (45, 6, 30, 1356), (48, 6, 31, 1357), (51, 6, 32, 1358), (54, 6, 33, 1359), (57, 6, 34, 1360), (60, 6, 35, 1361), (63, 6, 36, 1362), (66, 6, 39, 1365), (69, 6, 40, 1366), (72, 6, 41, 1367), (75, 6, 45, 1371), (78, 6, 46, 1372), (81, 6, 47, 1373), (84, 6, 48, 1374), (87, 6, 49, 1375), (90, 6, 55, 1381), (93, 6, 56, 1382), (96, 6, 57, 1383), (99, 6, 59, 1385), (102, 6, 60, 1386), (105, 6, 61, 1387), (108, 6, 62, 1388), (111, 6, 63, 1389), (114, 6, 0, 1326), (118, 6, 3, 1329), (129, 6, 4, 1330), (132, 6, 5, 1331), (135, 6, 7, 1333), (142, 6, 6, 1332), (162, 6, 8, 1334), (165, 6, 9, 1335), (193, 6, 10, 1336), (205, 6, 11, 1337), (208, 6, 12, 1338), (215, 6, 38, 1364), (218, 6, 20, 1346), (221, 6, 42, 1368), (228, 6, 13, 1339), (240, 6, 14, 1340), (243, 6, 15, 1341), (246, 6, 18, 1344), (249, 6, 16, 1342), (252, 6, 58, 1384), (328, 6, 17, 1343), (334, 6, 37, 1363), (343, 6, 19, 1345), (366, 6, 44, 1370), (372, 6, 43, 1369), (383, 6, 50, 1376), (386, 6, 52, 1378), (392, 6, 51, 1377), (395, 6, 54, 1380), (405, 6, 53, 1379)],
  [],
  [],
  [],
  [],
  [],
  []]
/-- calls by owner and place in its pool: (place, method, where the word stands) -/
def pm_ivl : List (List (Nat × Nat × Nat)) := [
  [(27, 172, 941), (49, 68, 1280), (53, 134, 1281), (57, 80, 1285), (61, 72, 981), (96, 137, 948), (100, 143, 952), (103, 150, 956), (107, 141, 960), (110, 151, 964), (114, 142, 968), (117, 146, 972), (120, 147, 986), (123, 148, 990), (126, 149, 1254), (129, 138, 1258), (132, 144, 982), (137, 140, 1262), (141, 139, 1266), (144, 79, 980), (151, 145, 976), (157, 64, 994), (160, 73, 995), (163, 170, 996), (169, 81, 1253)],
  [(30, 63, 613), (34, 67, 588), (38, 64, 625), (42, 70, 1319)],
  [(48, 75, 432), (65, 89, 440), (69, 100, 538), (72, 86, 542), (79, 110, 557), (82, 108, 791), (91, 113, 634), (94, 102, 571), (118, 103, 575), (134, 66, 584), (138, 63, 592), (141, 101, 561), (144, 106, 565), (150, 107, 579), (157, 109, 795), (164, 76, 799), (180, 62, 596), (181, 111, 597), (184, 77, 616), (191, 87, 631), (194, 112, 605), (200, 121, 680), (204, 104, 730), (212, 83, 672), (215, 65, 609), (228, 85, 638), (233, 114, 649), (236, 115, 653), (239, 105, 668), (246, 116, 764), (252, 117, 785), (255, 129, 659), (259, 120, 676), (265, 130, 746), (268, 131, 736), (272, 118, 768), (275, 119, 772), (281, 84, 780), (284, 122, 684), (293, 123, 688), (308, 88, 692), (311, 124, 702), (314, 125, 706), (317, 126, 710), (320, 127, 714), (323, 81, 734), (326, 68, 735), (327, 128, 718), (331, 82, 722), (334, 78, 663), (337, 72, 740), (341, 73, 743)],
  [(50, 172, 419), (66, 62, 436), (85, 63, 620), (92, 65, 803), (96, 68, 621), (100, 64, 667), (103, 80, 890), (107, 171, 894), (110, 81, 726)],
  [(31, 172, 444), (47, 91, 445), (50, 92, 449), (54, 90, 533), (68, 97, 453), (72, 93, 456), (75, 98, 462), (78, 94, 469), (81, 95, 529), (98, 163, 475), (103, 96, 485), (110, 164, 489)],
  [(50, 161, 404), (54, 162, 408), (58, 74, 415), (66, 169, 425), (72, 99, 428), (85, 79, 886), (92, 72, 912), (108, 132, 937), (112, 135, 943), (119, 133, 1276), (122, 136, 1286), (142, 70, 1311), (147, 71, 1315), (154, 69, 808)],
  [(138, 5, 1539), (145, 4, 1543), (149, 7, 1546), (152, 3, 1553), (155, 8, 1556), (158, 9, 1569), (196, 6, 1535), (199, 11, 1617), (202, 10, 1605), (211, 14, 1613), (225, 18, 1601), (231, 15, 1609), (237, 12, 1622), (255, 21, 1581), (259, 24, 1589), (263, 25, 1678), (266, 26, 1593), (269, 16, 1573), (273, 22, 1577), (276, 28, 1634), (279, 29, 1642), (283, 30, 1646), (286, 31, 1666), (289, 32, 1670), (292, 33, 1674), (295, 37, 1682), (299, 38, 1686), (302, 13, 1638), (306, 39, 1690), (309, 40, 1694), (313, 43, 1698), (316, 42, 1714), (319, 46, 1721), (322, 19, 1597), (325, 27, 1626), (331, 20, 1630), (337, 36, 1650), (340, 17, 1662), (346, 35, 1654), (350, 34, 1658), (354, 41, 1718), (357, 44, 1702), (360, 45, 1706), (363, 47, 1710), (369, 23, 1585), (375, 49, 1729), (379, 1, 1733), (389, 52, 1749), (398, 53, 1745), (401, 51, 1753), (408, 54, 1741), (411, 56, 1760)],
  [(153, 87, 548)],
  [(335, 165, 479), (492, 166, 493), (495, 167, 497)],
  [],
  [(13, 168, 999), (304, 172, 1073)],
  [],
  [(7, 154, 817), (17, 155, 917), (23, 156, 1272), (26, 157, 1293), (30, 158, 1300), (33, 159, 1307), (43, 152, 400), (47, 2, 1523), (48, 153, 411), (52, 48, 1531), (58, 50, 1725), (59, 0, 1519), (65, 55, 1737), (68, 57, 1756), (72, 58, 1764), (75, 59, 1768), (79, 60, 1772), (80, 160, 804), (83, 61, 1776)]]
def pm_kll : List (List (Nat × Int64 × Nat)) := [
  [(85, 2, 947)],
  [],
  [],
  [],
  [(84, 4294967296, 460), (86, 10, 461)],
  [(166, 255, 407)],
  [(121, 255, 1527), (123, 10, 1528), (125, 31, 1529), (127, 127, 1530), (169, 48, 1550), (171, 4294967296, 1551), (173, 4294967295, 1552), (175, -1, 1560), (177, 7370082, 1561), (179, 7562595, 1562), (181, 6714734, 1563), (183, 125780071117422, 1564), (185, 26982, 1565), (187, 1701606245, 1566), (189, 512852847717, 1567), (191, 1936419184, 1568), (235, 64, 1621)],
  [],
  [],
  [],
  [],
  [],
  [(41, 4294967295, 1780)]]
