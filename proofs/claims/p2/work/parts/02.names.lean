/-! Names and tables of the classes and methods, written by gentab.py out of what TURN printed of the program -/
def pm_R0 : String := "QuietChecker$Machine"
def pm_T0 : u_T := fun k => match k with
  | 0 => ("QuietChecker$Machine", "program", "LQuietChecker$Program;", true)
  | 1 => ("QuietChecker$Machine", "cells", "[I", true)
  | 2 => ("QuietChecker$Machine", "notes", "[I", true)
  | 3 => ("QuietChecker$Machine", "noted", "I", false)
  | 4 => ("QuietChecker$Machine", "steps", "I", false)
  | 5 => ("QuietChecker$Machine", "end", "I", false)
  | 6 => ("QuietChecker$Machine", "stack", "[I", true)
  | 7 => ("QuietChecker$Machine", "height", "I", false)
  | 8 => ("QuietChecker$Machine", "next", "I", false)
  | _ => ("QuietChecker$Machine", "fuel", "I", false)
def pm_y0 : Nat → FieldType := fun k => match k with
  | 0 => .object "QuietChecker$Program"
  | 1 => .array .int
  | 2 => .array .int
  | 3 => .int
  | 4 => .int
  | 5 => .int
  | 6 => .array .int
  | 7 => .int
  | 8 => .int
  | _ => .int
theorem pm_nm0 : ∀ a, a < 10 → ∀ b, b < 10 → a ≠ b → (pm_T0 a).2.1 ≠ (pm_T0 b).2.1 := by decide +kernel
theorem pm_ty0 : ∀ k, k < 10 → parseFieldDescriptor (pm_T0 k).2.2.1 = some (pm_y0 k) := by decide +kernel
def pm_R1 : String := "QuietChecker$Names"
def pm_T1 : u_T := fun k => match k with
  | 0 => ("QuietChecker$Names", "text", "[C", true)
  | 1 => ("QuietChecker$Names", "places", "[I", true)
  | 2 => ("QuietChecker$Names", "sizes", "[I", true)
  | 3 => ("QuietChecker$Names", "secrets", "[Z", true)
  | _ => ("QuietChecker$Names", "count", "I", false)
def pm_y1 : Nat → FieldType := fun k => match k with
  | 0 => .array .char
  | 1 => .array .int
  | 2 => .array .int
  | 3 => .array .boolean
  | _ => .int
theorem pm_nm1 : ∀ a, a < 5 → ∀ b, b < 5 → a ≠ b → (pm_T1 a).2.1 ≠ (pm_T1 b).2.1 := by decide +kernel
theorem pm_ty1 : ∀ k, k < 5 → parseFieldDescriptor (pm_T1 k).2.2.1 = some (pm_y1 k) := by decide +kernel
def pm_R2 : String := "QuietChecker$Parser"
def pm_T2 : u_T := fun k => match k with
  | 0 => ("QuietChecker$Parser", "program", "LQuietChecker$Program;", true)
  | 1 => ("QuietChecker$Parser", "tokens", "LQuietChecker$Tokens;", true)
  | 2 => ("QuietChecker$Parser", "locals", "LQuietChecker$Names;", true)
  | 3 => ("QuietChecker$Parser", "inFunction", "Z", false)
  | 4 => ("QuietChecker$Parser", "functionName", "I", false)
  | 5 => ("QuietChecker$Parser", "functionSecret", "Z", false)
  | 6 => ("QuietChecker$Parser", "fault", "I", false)
  | 7 => ("QuietChecker$Parser", "leak", "I", false)
  | 8 => ("QuietChecker$Parser", "token", "I", false)
  | 9 => ("QuietChecker$Parser", "kind", "LQuietChecker$Kind;", false)
  | _ => ("QuietChecker$Parser", "place", "I", false)
def pm_y2 : Nat → FieldType := fun k => match k with
  | 0 => .object "QuietChecker$Program"
  | 1 => .object "QuietChecker$Tokens"
  | 2 => .object "QuietChecker$Names"
  | 3 => .boolean
  | 4 => .int
  | 5 => .boolean
  | 6 => .int
  | 7 => .int
  | 8 => .int
  | 9 => .object "QuietChecker$Kind"
  | _ => .int
theorem pm_nm2 : ∀ a, a < 11 → ∀ b, b < 11 → a ≠ b → (pm_T2 a).2.1 ≠ (pm_T2 b).2.1 := by decide +kernel
theorem pm_ty2 : ∀ k, k < 11 → parseFieldDescriptor (pm_T2 k).2.2.1 = some (pm_y2 k) := by decide +kernel
def pm_R3 : String := "QuietChecker$Program"
def pm_T3 : u_T := fun k => match k with
  | 0 => ("QuietChecker$Program", "text", "[C", true)
  | 1 => ("QuietChecker$Program", "length", "I", false)
  | 2 => ("QuietChecker$Program", "top", "LQuietChecker$Names;", true)
  | 3 => ("QuietChecker$Program", "sizes", "[I", true)
  | 4 => ("QuietChecker$Program", "arrayNumbers", "[I", true)
  | 5 => ("QuietChecker$Program", "arrays", "I", false)
  | 6 => ("QuietChecker$Program", "functions", "LQuietChecker$Names;", true)
  | 7 => ("QuietChecker$Program", "entries", "[I", true)
  | 8 => ("QuietChecker$Program", "parameters", "[I", true)
  | 9 => ("QuietChecker$Program", "secretParameters", "[Z", true)
  | 10 => ("QuietChecker$Program", "ops", "[I", true)
  | 11 => ("QuietChecker$Program", "details", "[I", true)
  | 12 => ("QuietChecker$Program", "codeLength", "I", false)
  | 13 => ("QuietChecker$Program", "start", "I", false)
  | 14 => ("QuietChecker$Program", "statements", "I", false)
  | _ => ("QuietChecker$Program", "whole", "Z", false)
def pm_y3 : Nat → FieldType := fun k => match k with
  | 0 => .array .char
  | 1 => .int
  | 2 => .object "QuietChecker$Names"
  | 3 => .array .int
  | 4 => .array .int
  | 5 => .int
  | 6 => .object "QuietChecker$Names"
  | 7 => .array .int
  | 8 => .array .int
  | 9 => .array .boolean
  | 10 => .array .int
  | 11 => .array .int
  | 12 => .int
  | 13 => .int
  | 14 => .int
  | _ => .boolean
theorem pm_nm3 : ∀ a, a < 16 → ∀ b, b < 16 → a ≠ b → (pm_T3 a).2.1 ≠ (pm_T3 b).2.1 := by decide +kernel
theorem pm_ty3 : ∀ k, k < 16 → parseFieldDescriptor (pm_T3 k).2.2.1 = some (pm_y3 k) := by decide +kernel
def pm_R4 : String := "QuietChecker$Tokens"
def pm_T4 : u_T := fun k => match k with
  | 0 => ("QuietChecker$Tokens", "kinds", "[LQuietChecker$Kind;", true)
  | 1 => ("QuietChecker$Tokens", "places", "[I", true)
  | 2 => ("QuietChecker$Tokens", "sizes", "[I", true)
  | 3 => ("QuietChecker$Tokens", "numbers", "[I", true)
  | 4 => ("QuietChecker$Tokens", "count", "I", false)
  | 5 => ("QuietChecker$Tokens", "text", "[C", true)
  | 6 => ("QuietChecker$Tokens", "length", "I", false)
  | 7 => ("QuietChecker$Tokens", "next", "I", false)
  | _ => ("QuietChecker$Tokens", "number", "I", false)
def pm_y4 : Nat → FieldType := fun k => match k with
  | 0 => .array (.object "QuietChecker$Kind")
  | 1 => .array .int
  | 2 => .array .int
  | 3 => .array .int
  | 4 => .int
  | 5 => .array .char
  | 6 => .int
  | 7 => .int
  | _ => .int
theorem pm_nm4 : ∀ a, a < 9 → ∀ b, b < 9 → a ≠ b → (pm_T4 a).2.1 ≠ (pm_T4 b).2.1 := by decide +kernel
theorem pm_ty4 : ∀ k, k < 9 → parseFieldDescriptor (pm_T4 k).2.2.1 = some (pm_y4 k) := by decide +kernel
def pm_R5 : String := "QuietChecker"
def pm_T5 : u_T := fun k => match k with
  | 0 => ("QuietChecker", "text", "[C", true)
  | 1 => ("QuietChecker", "length", "I", false)
  | 2 => ("QuietChecker", "program", "LQuietChecker$Program;", true)
  | 3 => ("QuietChecker", "parser", "LQuietChecker$Parser;", true)
  | 4 => ("QuietChecker", "inputs", "[I", true)
  | 5 => ("QuietChecker", "inputsOfRun", "[I", true)
  | 6 => ("QuietChecker", "latest", "LQuietChecker$Machine;", true)
  | 7 => ("QuietChecker", "other", "LQuietChecker$Machine;", true)
  | 8 => ("QuietChecker", "fuelOfRun", "I", false)
  | 9 => ("QuietChecker", "ran", "Z", false)
  | _ => ("QuietChecker", "fault", "I", false)
def pm_y5 : Nat → FieldType := fun k => match k with
  | 0 => .array .char
  | 1 => .int
  | 2 => .object "QuietChecker$Program"
  | 3 => .object "QuietChecker$Parser"
  | 4 => .array .int
  | 5 => .array .int
  | 6 => .object "QuietChecker$Machine"
  | 7 => .object "QuietChecker$Machine"
  | 8 => .int
  | 9 => .boolean
  | _ => .int
theorem pm_nm5 : ∀ a, a < 11 → ∀ b, b < 11 → a ≠ b → (pm_T5 a).2.1 ≠ (pm_T5 b).2.1 := by decide +kernel
theorem pm_ty5 : ∀ k, k < 11 → parseFieldDescriptor (pm_T5 k).2.2.1 = some (pm_y5 k) := by decide +kernel
def pm_R6 : String := "QuietCheckerModel"
def pm_T6 : u_T := fun k => match k with
  | 0 => ("QuietCheckerModel", "code", "I", false)
  | 1 => ("QuietCheckerModel", "text", "[C", true)
  | 2 => ("QuietCheckerModel", "kept", "[C", true)
  | 3 => ("QuietCheckerModel", "size", "I", false)
  | 4 => ("QuietCheckerModel", "keptSize", "I", false)
  | 5 => ("QuietCheckerModel", "at", "I", false)
  | 6 => ("QuietCheckerModel", "token", "I", false)
  | 7 => ("QuietCheckerModel", "from", "I", false)
  | 8 => ("QuietCheckerModel", "end", "I", false)
  | 9 => ("QuietCheckerModel", "number", "J", false)
  | 10 => ("QuietCheckerModel", "fault", "I", false)
  | 11 => ("QuietCheckerModel", "placed", "I", false)
  | 12 => ("QuietCheckerModel", "label", "I", false)
  | 13 => ("QuietCheckerModel", "tops", "I", false)
  | 14 => ("QuietCheckerModel", "arrays", "I", false)
  | 15 => ("QuietCheckerModel", "cells", "I", false)
  | 16 => ("QuietCheckerModel", "owns", "I", false)
  | 17 => ("QuietCheckerModel", "functions", "I", false)
  | 18 => ("QuietCheckerModel", "secrets", "I", false)
  | 19 => ("QuietCheckerModel", "statements", "I", false)
  | 20 => ("QuietCheckerModel", "open", "I", false)
  | 21 => ("QuietCheckerModel", "topAt", "[I", true)
  | 22 => ("QuietCheckerModel", "topLong", "[I", true)
  | 23 => ("QuietCheckerModel", "topSize", "[I", true)
  | 24 => ("QuietCheckerModel", "topNumber", "[I", true)
  | 25 => ("QuietCheckerModel", "topCell", "[I", true)
  | 26 => ("QuietCheckerModel", "topSecret", "[Z", true)
  | 27 => ("QuietCheckerModel", "ownSecret", "[Z", true)
  | 28 => ("QuietCheckerModel", "functionSecret", "[Z", true)
  | 29 => ("QuietCheckerModel", "ownAt", "[I", true)
  | 30 => ("QuietCheckerModel", "ownLong", "[I", true)
  | 31 => ("QuietCheckerModel", "functionAt", "[I", true)
  | 32 => ("QuietCheckerModel", "functionLong", "[I", true)
  | 33 => ("QuietCheckerModel", "functionBegin", "[I", true)
  | 34 => ("QuietCheckerModel", "parameters", "[I", true)
  | 35 => ("QuietCheckerModel", "ownsOf", "[I", true)
  | 36 => ("QuietCheckerModel", "parameterSecret", "[Z", true)
  | 37 => ("QuietCheckerModel", "within", "Z", false)
  | 38 => ("QuietCheckerModel", "orders", "I", false)
  | 39 => ("QuietCheckerModel", "order", "[I", true)
  | 40 => ("QuietCheckerModel", "one", "[I", true)
  | 41 => ("QuietCheckerModel", "two", "[I", true)
  | 42 => ("QuietCheckerModel", "secret", "Z", false)
  | 43 => ("QuietCheckerModel", "there", "Z", false)
  | 44 => ("QuietCheckerModel", "ran", "Z", false)
  | 45 => ("QuietCheckerModel", "inputs", "[I", true)
  | 46 => ("QuietCheckerModel", "now", "[I", true)
  | 47 => ("QuietCheckerModel", "notes", "[I", true)
  | 48 => ("QuietCheckerModel", "pile", "[I", true)
  | 49 => ("QuietCheckerModel", "frames", "[I", true)
  | 50 => ("QuietCheckerModel", "noted", "I", false)
  | 51 => ("QuietCheckerModel", "steps", "I", false)
  | 52 => ("QuietCheckerModel", "ending", "I", false)
  | 53 => ("QuietCheckerModel", "fuelOf", "I", false)
  | 54 => ("QuietCheckerModel", "depth", "I", false)
  | 55 => ("QuietCheckerModel", "before", "[I", true)
  | 56 => ("QuietCheckerModel", "saved", "[I", true)
  | 57 => ("QuietCheckerModel", "lastNotes", "[I", true)
  | 58 => ("QuietCheckerModel", "tasks", "I", false)
  | 59 => ("QuietCheckerModel", "task", "[I", true)
  | 60 => ("QuietCheckerModel", "taskA", "[I", true)
  | 61 => ("QuietCheckerModel", "taskB", "[I", true)
  | 62 => ("QuietCheckerModel", "taskC", "[I", true)
  | _ => ("QuietCheckerModel", "taskD", "[I", true)
def pm_y6 : Nat → FieldType := fun k => match k with
  | 0 => .int
  | 1 => .array .char
  | 2 => .array .char
  | 3 => .int
  | 4 => .int
  | 5 => .int
  | 6 => .int
  | 7 => .int
  | 8 => .int
  | 9 => .long
  | 10 => .int
  | 11 => .int
  | 12 => .int
  | 13 => .int
  | 14 => .int
  | 15 => .int
  | 16 => .int
  | 17 => .int
  | 18 => .int
  | 19 => .int
  | 20 => .int
  | 21 => .array .int
  | 22 => .array .int
  | 23 => .array .int
  | 24 => .array .int
  | 25 => .array .int
  | 26 => .array .boolean
  | 27 => .array .boolean
  | 28 => .array .boolean
  | 29 => .array .int
  | 30 => .array .int
  | 31 => .array .int
  | 32 => .array .int
  | 33 => .array .int
  | 34 => .array .int
  | 35 => .array .int
  | 36 => .array .boolean
  | 37 => .boolean
  | 38 => .int
  | 39 => .array .int
  | 40 => .array .int
  | 41 => .array .int
  | 42 => .boolean
  | 43 => .boolean
  | 44 => .boolean
  | 45 => .array .int
  | 46 => .array .int
  | 47 => .array .int
  | 48 => .array .int
  | 49 => .array .int
  | 50 => .int
  | 51 => .int
  | 52 => .int
  | 53 => .int
  | 54 => .int
  | 55 => .array .int
  | 56 => .array .int
  | 57 => .array .int
  | 58 => .int
  | 59 => .array .int
  | 60 => .array .int
  | 61 => .array .int
  | 62 => .array .int
  | _ => .array .int
theorem pm_nm6 : ∀ a, a < 64 → ∀ b, b < 64 → a ≠ b → (pm_T6 a).2.1 ≠ (pm_T6 b).2.1 := by decide +kernel
theorem pm_ty6 : ∀ k, k < 64 → parseFieldDescriptor (pm_T6 k).2.2.1 = some (pm_y6 k) := by decide +kernel
abbrev pm_cl : List vw_C := [(pm_R0, pm_T0, 10), (pm_R1, pm_T1, 5), (pm_R2, pm_T2, 11), (pm_R3, pm_T3, 16), (pm_R4, pm_T4, 9), (pm_R5, pm_T5, 11), (pm_R6, pm_T6, 64)]
def pm_ft (ci : Nat) : List FieldType := match ci with
  | 0 => [.object "QuietChecker$Program", .array .int, .array .int, .int, .int, .int, .array .int, .int, .int, .int]
  | 1 => [.array .char, .array .int, .array .int, .array .boolean, .int]
  | 2 => [.object "QuietChecker$Program", .object "QuietChecker$Tokens", .object "QuietChecker$Names", .boolean, .int, .boolean, .int, .int, .int, .object "QuietChecker$Kind", .int]
  | 3 => [.array .char, .int, .object "QuietChecker$Names", .array .int, .array .int, .int, .object "QuietChecker$Names", .array .int, .array .int, .array .boolean, .array .int, .array .int, .int, .int, .int, .boolean]
  | 4 => [.array (.object "QuietChecker$Kind"), .array .int, .array .int, .array .int, .int, .array .char, .int, .int, .int]
  | 5 => [.array .char, .int, .object "QuietChecker$Program", .object "QuietChecker$Parser", .array .int, .array .int, .object "QuietChecker$Machine", .object "QuietChecker$Machine", .int, .boolean, .int]
  | 6 => [.int, .array .char, .array .char, .int, .int, .int, .int, .int, .int, .long, .int, .int, .int, .int, .int, .int, .int, .int, .int, .int, .int, .array .int, .array .int, .array .int, .array .int, .array .int, .array .boolean, .array .boolean, .array .boolean, .array .int, .array .int, .array .int, .array .int, .array .int, .array .int, .array .int, .array .boolean, .boolean, .int, .array .int, .array .int, .array .int, .boolean, .boolean, .boolean, .array .int, .array .int, .array .int, .array .int, .array .int, .int, .int, .int, .int, .int, .array .int, .array .int, .array .int, .int, .array .int, .array .int, .array .int, .array .int, .array .int]
  | _ => []
def pm_own : List String := ["QuietChecker$Machine", "QuietChecker$Names", "QuietChecker$Parser", "QuietChecker$Program", "QuietChecker$Tokens", "QuietChecker", "QuietCheckerModel", "QuietChecker$Kind", "java/lang/String", "java/lang/StringLatin1", "java/util/Arrays", "java/lang/Math", "QuietCheckerLaw"]
def pm_on (k : Nat) : String := pm_own.getD k ""
def pm_mt : List (Nat × MethodName × ByteArray × Nat × Option FieldType × Bool × Nat) := [
  (6, ⟨"QuietCheckerModel", "fails", "(ZZ)Z"⟩, prog_10_method_3_code, 3, (some .boolean), false, 2),
  (6, ⟨"QuietCheckerModel", "feed", "(JI)Z"⟩, prog_10_method_4_code, 8, (some .boolean), false, 2),
  (6, ⟨"QuietCheckerModel", "isLetter", "(I)Z"⟩, prog_10_method_5_code, 1, (some .boolean), true, 1),
  (6, ⟨"QuietCheckerModel", "isDigit", "(I)Z"⟩, prog_10_method_6_code, 1, (some .boolean), true, 1),
  (6, ⟨"QuietCheckerModel", "charAt", "(I)I"⟩, prog_10_method_7_code, 2, (some .int), false, 1),
  (6, ⟨"QuietCheckerModel", "next", "()V"⟩, prog_10_method_8_code, 3, none, false, 0),
  (6, ⟨"QuietCheckerModel", "digits", "()V"⟩, prog_10_method_9_code, 1, none, false, 0),
  (6, ⟨"QuietCheckerModel", "word", "()V"⟩, prog_10_method_10_code, 3, none, false, 0),
  (6, ⟨"QuietCheckerModel", "sign", "(I)V"⟩, prog_10_method_11_code, 5, none, false, 1),
  (6, ⟨"QuietCheckerModel", "fail", "(I)V"⟩, prog_10_method_12_code, 2, none, false, 1),
  (6, ⟨"QuietCheckerModel", "meets", "(I)Z"⟩, prog_10_method_13_code, 2, (some .boolean), false, 1),
  (6, ⟨"QuietCheckerModel", "must", "(I)V"⟩, prog_10_method_14_code, 2, none, false, 1),
  (6, ⟨"QuietCheckerModel", "forbid", "(II)V"⟩, prog_10_method_15_code, 3, none, false, 2),
  (6, ⟨"QuietCheckerModel", "same", "(IIII)Z"⟩, prog_10_method_16_code, 7, (some .boolean), false, 4),
  (6, ⟨"QuietCheckerModel", "find", "([I[II)I"⟩, prog_10_method_17_code, 6, (some .int), false, 3),
  (6, ⟨"QuietCheckerModel", "say", "(III)V"⟩, prog_10_method_18_code, 4, none, false, 3),
  (6, ⟨"QuietCheckerModel", "deeper", "()V"⟩, prog_10_method_19_code, 1, none, false, 0),
  (6, ⟨"QuietCheckerModel", "label0", "()V"⟩, prog_10_method_20_code, 1, none, false, 0),
  (6, ⟨"QuietCheckerModel", "top", "()V"⟩, prog_10_method_21_code, 4, none, false, 0),
  (6, ⟨"QuietCheckerModel", "own", "()V"⟩, prog_10_method_22_code, 1, none, false, 0),
  (6, ⟨"QuietCheckerModel", "wait", "(IIIII)V"⟩, prog_10_method_23_code, 6, none, false, 5),
  (6, ⟨"QuietCheckerModel", "plain", "(I)V"⟩, prog_10_method_24_code, 2, none, false, 1),
  (6, ⟨"QuietCheckerModel", "goOn", "()V"⟩, prog_10_method_25_code, 6, none, false, 0),
  (6, ⟨"QuietCheckerModel", "rows", "(IIII)V"⟩, prog_10_method_26_code, 6, none, false, 4),
  (6, ⟨"QuietCheckerModel", "expressions", "(IIIII)V"⟩, prog_10_method_27_code, 7, none, false, 5),
  (6, ⟨"QuietCheckerModel", "told", "(I)V"⟩, prog_10_method_28_code, 2, none, false, 1),
  (6, ⟨"QuietCheckerModel", "function", "()V"⟩, prog_10_method_29_code, 3, none, false, 0),
  (6, ⟨"QuietCheckerModel", "functionEnd", "(III)V"⟩, prog_10_method_30_code, 4, none, false, 3),
  (6, ⟨"QuietCheckerModel", "begins", "()Z"⟩, prog_10_method_31_code, 1, (some .boolean), false, 0),
  (6, ⟨"QuietCheckerModel", "statement", "()V"⟩, prog_10_method_32_code, 3, none, false, 0),
  (6, ⟨"QuietCheckerModel", "branch", "(I)I"⟩, prog_10_method_33_code, 2, (some .int), false, 1),
  (6, ⟨"QuietCheckerModel", "block", "()V"⟩, prog_10_method_34_code, 1, none, false, 0),
  (6, ⟨"QuietCheckerModel", "ifDone", "(I)V"⟩, prog_10_method_35_code, 2, none, false, 1),
  (6, ⟨"QuietCheckerModel", "named", "(Z)I"⟩, prog_10_method_36_code, 4, (some .int), false, 1),
  (6, ⟨"QuietCheckerModel", "ahead", "()I"⟩, prog_10_method_37_code, 3, (some .int), false, 0),
  (6, ⟨"QuietCheckerModel", "assignment", "()V"⟩, prog_10_method_38_code, 3, none, false, 0),
  (6, ⟨"QuietCheckerModel", "assigned", "(IZI)V"⟩, prog_10_method_39_code, 5, none, false, 3),
  (6, ⟨"QuietCheckerModel", "index", "()V"⟩, prog_10_method_40_code, 2, none, false, 0),
  (6, ⟨"QuietCheckerModel", "asked", "()V"⟩, prog_10_method_41_code, 2, none, false, 0),
  (6, ⟨"QuietCheckerModel", "first", "(Z)V"⟩, prog_10_method_42_code, 3, none, false, 1),
  (6, ⟨"QuietCheckerModel", "levelOf", "(I)I"⟩, prog_10_method_43_code, 1, (some .int), true, 1),
  (6, ⟨"QuietCheckerModel", "levelOn", "(I)V"⟩, prog_10_method_44_code, 2, none, false, 1),
  (6, ⟨"QuietCheckerModel", "single", "()V"⟩, prog_10_method_45_code, 2, none, false, 0),
  (6, ⟨"QuietCheckerModel", "called", "()V"⟩, prog_10_method_46_code, 3, none, false, 0),
  (6, ⟨"QuietCheckerModel", "call", "()V"⟩, prog_10_method_47_code, 2, none, false, 0),
  (6, ⟨"QuietCheckerModel", "given", "(III)V"⟩, prog_10_method_48_code, 4, none, false, 3),
  (6, ⟨"QuietCheckerModel", "callEnd", "(II)V"⟩, prog_10_method_49_code, 3, none, false, 2),
  (6, ⟨"QuietCheckerModel", "check", "()I"⟩, prog_10_method_50_code, 2, (some .int), false, 0),
  (6, ⟨"QuietCheckerModel", "cellOf", "(II)I"⟩, prog_10_method_51_code, 4, (some .int), false, 2),
  (6, ⟨"QuietCheckerModel", "put", "(III)V"⟩, prog_10_method_52_code, 4, none, false, 3),
  (6, ⟨"QuietCheckerModel", "worked", "(III)I"⟩, prog_10_method_53_code, 3, (some .int), true, 3),
  (6, ⟨"QuietCheckerModel", "tell", "(I)V"⟩, prog_10_method_54_code, 2, none, false, 1),
  (6, ⟨"QuietCheckerModel", "cell", "(II)I"⟩, prog_10_method_55_code, 3, (some .int), false, 2),
  (6, ⟨"QuietCheckerModel", "go", "(I)V"⟩, prog_10_method_56_code, 10, none, false, 1),
  (6, ⟨"QuietCheckerModel", "run", "(I)I"⟩, prog_10_method_57_code, 3, (some .int), false, 1),
  (6, ⟨"QuietCheckerModel", "disguise", "(I)V"⟩, prog_10_method_58_code, 6, none, false, 1),
  (6, ⟨"QuietCheckerModel", "twin", "(I)I"⟩, prog_10_method_59_code, 8, (some .int), false, 1),
  (6, ⟨"QuietCheckerModel", "value", "(II)I"⟩, prog_10_method_60_code, 3, (some .int), false, 2),
  (6, ⟨"QuietCheckerModel", "note", "(I)I"⟩, prog_10_method_61_code, 2, (some .int), false, 1),
  (6, ⟨"QuietCheckerModel", "letter", "(IZI)C"⟩, prog_10_method_62_code, 6, (some .char), false, 3),
  (6, ⟨"QuietCheckerModel", "count", "(I)I"⟩, prog_10_method_63_code, 2, (some .int), false, 1),
  (1, ⟨"QuietChecker$Names", "clear", "()V"⟩, prog_4_method_2_code, 1, none, false, 0),
  (1, ⟨"QuietChecker$Names", "isFull", "()Z"⟩, prog_4_method_3_code, 1, (some .boolean), false, 0),
  (1, ⟨"QuietChecker$Names", "has", "(I)Z"⟩, prog_4_method_4_code, 2, (some .boolean), false, 1),
  (1, ⟨"QuietChecker$Names", "add", "(IIZ)V"⟩, prog_4_method_5_code, 4, none, false, 3),
  (1, ⟨"QuietChecker$Names", "find", "(II)I"⟩, prog_4_method_6_code, 4, (some .int), false, 2),
  (1, ⟨"QuietChecker$Names", "sameLetters", "(III)Z"⟩, prog_4_method_7_code, 5, (some .boolean), false, 3),
  (1, ⟨"QuietChecker$Names", "isSecret", "(I)Z"⟩, prog_4_method_8_code, 2, (some .boolean), false, 1),
  (1, ⟨"QuietChecker$Names", "secretOnes", "()I"⟩, prog_4_method_9_code, 3, (some .int), false, 0),
  (1, ⟨"QuietChecker$Names", "hasCharacter", "(II)Z"⟩, prog_4_method_10_code, 3, (some .boolean), false, 2),
  (1, ⟨"QuietChecker$Names", "character", "(II)C"⟩, prog_4_method_11_code, 3, (some .char), false, 2),
  (3, ⟨"QuietChecker$Program", "cell", "(II)I"⟩, prog_7_method_2_code, 2, (some .int), true, 2),
  (3, ⟨"QuietChecker$Program", "local", "(II)I"⟩, prog_7_method_3_code, 2, (some .int), true, 2),
  (3, ⟨"QuietChecker$Program", "take", "([CI)V"⟩, prog_7_method_4_code, 3, none, false, 2),
  (3, ⟨"QuietChecker$Program", "clear", "()V"⟩, prog_7_method_5_code, 1, none, false, 0),
  (3, ⟨"QuietChecker$Program", "addTop", "(IIZI)V"⟩, prog_7_method_6_code, 5, none, false, 4),
  (3, ⟨"QuietChecker$Program", "beginFunction", "(LQuietChecker$Names;)V"⟩, prog_7_method_7_code, 3, none, false, 1),
  (3, ⟨"QuietChecker$Program", "isArray", "(I)Z"⟩, prog_7_method_8_code, 2, (some .boolean), false, 1),
  (3, ⟨"QuietChecker$Program", "hasCell", "(II)Z"⟩, prog_7_method_9_code, 3, (some .boolean), false, 2),
  (3, ⟨"QuietChecker$Program", "cellsOf", "(I)I"⟩, prog_7_method_10_code, 2, (some .int), false, 1),
  (3, ⟨"QuietChecker$Program", "parametersOf", "(I)I"⟩, prog_7_method_11_code, 2, (some .int), false, 1),
  (3, ⟨"QuietChecker$Program", "takesSecret", "(II)Z"⟩, prog_7_method_12_code, 3, (some .boolean), false, 2),
  (3, ⟨"QuietChecker$Program", "emit", "(II)I"⟩, prog_7_method_13_code, 3, (some .int), false, 2),
  (3, ⟨"QuietChecker$Program", "aim", "(I)V"⟩, prog_7_method_14_code, 2, none, false, 1),
  (7, ⟨"QuietChecker$Kind", "startsStatement", "()Z"⟩, prog_2_method_5_code, 1, (some .boolean), false, 0),
  (7, ⟨"QuietChecker$Kind", "tellsName", "()Z"⟩, prog_2_method_6_code, 1, (some .boolean), false, 0),
  (7, ⟨"QuietChecker$Kind", "isLabel", "()Z"⟩, prog_2_method_7_code, 1, (some .boolean), false, 0),
  (7, ⟨"QuietChecker$Kind", "prefixOp", "()I"⟩, prog_2_method_8_code, 1, (some .int), false, 0),
  (4, ⟨"QuietChecker$Tokens", "scan", "(I)V"⟩, prog_8_method_2_code, 5, none, false, 1),
  (4, ⟨"QuietChecker$Tokens", "add", "(LQuietChecker$Kind;I)V"⟩, prog_8_method_3_code, 3, none, false, 2),
  (4, ⟨"QuietChecker$Tokens", "skipBlanks", "()V"⟩, prog_8_method_4_code, 3, none, false, 0),
  (4, ⟨"QuietChecker$Tokens", "scanToken", "()LQuietChecker$Kind;"⟩, prog_8_method_5_code, 1, (some (.object "QuietChecker$Kind")), false, 0),
  (4, ⟨"QuietChecker$Tokens", "scanNumber", "()LQuietChecker$Kind;"⟩, prog_8_method_6_code, 4, (some (.object "QuietChecker$Kind")), false, 0),
  (4, ⟨"QuietChecker$Tokens", "scanWord", "()LQuietChecker$Kind;"⟩, prog_8_method_7_code, 7, (some (.object "QuietChecker$Kind")), false, 0),
  (4, ⟨"QuietChecker$Tokens", "scanSign", "()LQuietChecker$Kind;"⟩, prog_8_method_8_code, 7, (some (.object "QuietChecker$Kind")), false, 0),
  (4, ⟨"QuietChecker$Tokens", "isAt", "(ILjava/lang/String;)Z"⟩, prog_8_method_9_code, 4, (some .boolean), false, 2),
  (4, ⟨"QuietChecker$Tokens", "isDigit", "(C)Z"⟩, prog_8_method_10_code, 1, (some .boolean), true, 1),
  (4, ⟨"QuietChecker$Tokens", "isWordPart", "(C)Z"⟩, prog_8_method_11_code, 1, (some .boolean), true, 1),
  (2, ⟨"QuietChecker$Parser", "parse", "()I"⟩, prog_6_method_2_code, 2, (some .int), false, 0),
  (2, ⟨"QuietChecker$Parser", "goTo", "(I)V"⟩, prog_6_method_3_code, 2, none, false, 1),
  (2, ⟨"QuietChecker$Parser", "advance", "()V"⟩, prog_6_method_4_code, 1, none, false, 0),
  (2, ⟨"QuietChecker$Parser", "expect", "(LQuietChecker$Kind;)V"⟩, prog_6_method_5_code, 2, none, false, 1),
  (2, ⟨"QuietChecker$Parser", "fail", "(II)V"⟩, prog_6_method_6_code, 3, none, false, 2),
  (2, ⟨"QuietChecker$Parser", "tellLeak", "(II)V"⟩, prog_6_method_7_code, 4, none, false, 2),
  (2, ⟨"QuietChecker$Parser", "mayOpen", "(II)Z"⟩, prog_6_method_8_code, 3, (some .boolean), false, 2),
  (2, ⟨"QuietChecker$Parser", "label", "()Z"⟩, prog_6_method_9_code, 2, (some .boolean), false, 0),
  (2, ⟨"QuietChecker$Parser", "newName", "(LQuietChecker$Names;)I"⟩, prog_6_method_10_code, 3, (some .int), false, 1),
  (2, ⟨"QuietChecker$Parser", "declaration", "()V"⟩, prog_6_method_11_code, 4, none, false, 0),
  (2, ⟨"QuietChecker$Parser", "arraySize", "()I"⟩, prog_6_method_12_code, 2, (some .int), false, 0),
  (2, ⟨"QuietChecker$Parser", "beginFunction", "()V"⟩, prog_6_method_13_code, 2, none, false, 0),
  (2, ⟨"QuietChecker$Parser", "endFunction", "()V"⟩, prog_6_method_14_code, 2, none, false, 0),
  (2, ⟨"QuietChecker$Parser", "parameters", "()V"⟩, prog_6_method_15_code, 2, none, false, 0),
  (2, ⟨"QuietChecker$Parser", "local", "()V"⟩, prog_6_method_16_code, 3, none, false, 0),
  (2, ⟨"QuietChecker$Parser", "statements", "(I)V"⟩, prog_6_method_17_code, 3, none, false, 1),
  (2, ⟨"QuietChecker$Parser", "statement", "(I)V"⟩, prog_6_method_18_code, 4, none, false, 1),
  (2, ⟨"QuietChecker$Parser", "assignment", "(I)V"⟩, prog_6_method_19_code, 6, none, false, 1),
  (2, ⟨"QuietChecker$Parser", "branch", "(II)V"⟩, prog_6_method_20_code, 5, none, false, 2),
  (2, ⟨"QuietChecker$Parser", "repetition", "(II)V"⟩, prog_6_method_21_code, 5, none, false, 2),
  (2, ⟨"QuietChecker$Parser", "condition", "(II)V"⟩, prog_6_method_22_code, 3, none, false, 2),
  (2, ⟨"QuietChecker$Parser", "block", "(I)V"⟩, prog_6_method_23_code, 2, none, false, 1),
  (2, ⟨"QuietChecker$Parser", "index", "(I)V"⟩, prog_6_method_24_code, 3, none, false, 1),
  (2, ⟨"QuietChecker$Parser", "expression", "(I)Z"⟩, prog_6_method_25_code, 3, (some .boolean), false, 1),
  (2, ⟨"QuietChecker$Parser", "binary", "(II)Z"⟩, prog_6_method_26_code, 7, (some .boolean), false, 2),
  (2, ⟨"QuietChecker$Parser", "prefixed", "(I)Z"⟩, prog_6_method_27_code, 4, (some .boolean), false, 1),
  (2, ⟨"QuietChecker$Parser", "operand", "(I)Z"⟩, prog_6_method_28_code, 3, (some .boolean), false, 1),
  (2, ⟨"QuietChecker$Parser", "named", "(I)Z"⟩, prog_6_method_29_code, 5, (some .boolean), false, 1),
  (2, ⟨"QuietChecker$Parser", "call", "(II)Z"⟩, prog_6_method_30_code, 5, (some .boolean), false, 2),
  (2, ⟨"QuietChecker$Parser", "arguments", "(II)I"⟩, prog_6_method_31_code, 5, (some .int), false, 2),
  (2, ⟨"QuietChecker$Parser", "argument", "(III)V"⟩, prog_6_method_32_code, 5, none, false, 3),
  (2, ⟨"QuietChecker$Parser", "known", "(IZ)I"⟩, prog_6_method_33_code, 6, (some .int), false, 2),
  (2, ⟨"QuietChecker$Parser", "isSecret", "(I)Z"⟩, prog_6_method_34_code, 2, (some .boolean), false, 1),
  (2, ⟨"QuietChecker$Parser", "cellOfVariable", "(I)I"⟩, prog_6_method_35_code, 2, (some .int), false, 1),
  (0, ⟨"QuietChecker$Machine", "load", "([I)V"⟩, prog_3_method_2_code, 2, none, false, 1),
  (0, ⟨"QuietChecker$Machine", "disturbSecrets", "(I)V"⟩, prog_3_method_3_code, 4, none, false, 1),
  (0, ⟨"QuietChecker$Machine", "disturbCells", "(III)I"⟩, prog_3_method_4_code, 6, (some .int), false, 3),
  (0, ⟨"QuietChecker$Machine", "execute", "(I)V"⟩, prog_3_method_5_code, 7, none, false, 1),
  (0, ⟨"QuietChecker$Machine", "firstDifference", "(LQuietChecker$Machine;)I"⟩, prog_3_method_6_code, 4, (some .int), false, 1),
  (0, ⟨"QuietChecker$Machine", "perform", "(II)V"⟩, prog_3_method_7_code, 3, none, false, 2),
  (0, ⟨"QuietChecker$Machine", "performOnStack", "(II)V"⟩, prog_3_method_8_code, 5, none, false, 2),
  (0, ⟨"QuietChecker$Machine", "combine", "(III)I"⟩, prog_3_method_9_code, 3, (some .int), true, 3),
  (0, ⟨"QuietChecker$Machine", "divide", "(IIZ)V"⟩, prog_3_method_10_code, 4, none, false, 3),
  (0, ⟨"QuietChecker$Machine", "held", "(I)I"⟩, prog_3_method_11_code, 2, (some .int), false, 1),
  (0, ⟨"QuietChecker$Machine", "hold", "(II)V"⟩, prog_3_method_12_code, 3, none, false, 2),
  (0, ⟨"QuietChecker$Machine", "step", "()V"⟩, prog_3_method_13_code, 1, none, false, 0),
  (0, ⟨"QuietChecker$Machine", "jot", "(I)Z"⟩, prog_3_method_14_code, 2, (some .boolean), false, 1),
  (0, ⟨"QuietChecker$Machine", "touch", "(II)Z"⟩, prog_3_method_15_code, 3, (some .boolean), false, 2),
  (0, ⟨"QuietChecker$Machine", "readCell", "(I)V"⟩, prog_3_method_16_code, 3, none, false, 1),
  (0, ⟨"QuietChecker$Machine", "writeCell", "(I)V"⟩, prog_3_method_17_code, 4, none, false, 1),
  (0, ⟨"QuietChecker$Machine", "enter", "(I)V"⟩, prog_3_method_18_code, 4, none, false, 1),
  (0, ⟨"QuietChecker$Machine", "leave", "()V"⟩, prog_3_method_19_code, 2, none, false, 0),
  (0, ⟨"QuietChecker$Machine", "push", "(I)V"⟩, prog_3_method_20_code, 2, none, false, 1),
  (0, ⟨"QuietChecker$Machine", "pop", "()I"⟩, prog_3_method_21_code, 1, (some .int), false, 0),
  (5, ⟨"QuietChecker", "feed", "(JI)Z"⟩, prog_1_method_2_code, 5, (some .boolean), false, 2),
  (5, ⟨"QuietChecker", "check", "()I"⟩, prog_1_method_3_code, 2, (some .int), false, 0),
  (5, ⟨"QuietChecker", "put", "(III)V"⟩, prog_1_method_4_code, 4, none, false, 3),
  (5, ⟨"QuietChecker", "run", "(I)I"⟩, prog_1_method_5_code, 2, (some .int), false, 1),
  (5, ⟨"QuietChecker", "twin", "(I)I"⟩, prog_1_method_6_code, 2, (some .int), false, 1),
  (5, ⟨"QuietChecker", "value", "(II)I"⟩, prog_1_method_7_code, 3, (some .int), false, 2),
  (5, ⟨"QuietChecker", "note", "(I)I"⟩, prog_1_method_8_code, 2, (some .int), false, 1),
  (5, ⟨"QuietChecker", "letter", "(IZI)C"⟩, prog_1_method_9_code, 5, (some .char), false, 3),
  (5, ⟨"QuietChecker", "count", "(I)I"⟩, prog_1_method_10_code, 2, (some .int), false, 1),
  (5, ⟨"QuietChecker", "byteOf", "(JI)C"⟩, prog_1_method_11_code, 3, (some .char), true, 2),
  (5, ⟨"QuietChecker", "mayStandInText", "(C)Z"⟩, prog_1_method_12_code, 1, (some .boolean), true, 1),
  (8, ⟨"java/lang/String", "length", "()I"⟩, prog_22_method_54_code, 1, (some .int), false, 0),
  (8, ⟨"java/lang/String", "charAt", "(I)C"⟩, prog_22_method_56_code, 2, (some .char), false, 1),
  (8, ⟨"java/lang/String", "coder", "()B"⟩, prog_22_method_152_code, 1, (some .byte), false, 0),
  (8, ⟨"java/lang/String", "isLatin1", "()Z"⟩, prog_22_method_154_code, 1, (some .boolean), false, 0),
  (9, ⟨"java/lang/StringLatin1", "charAt", "([BI)C"⟩, prog_24_method_2_code, 2, (some .char), true, 2),
  (10, ⟨"java/util/Arrays", "rangeCheck", "(III)V"⟩, prog_28_method_30_code, 3, none, true, 3),
  (10, ⟨"java/util/Arrays", "fill", "([II)V"⟩, prog_28_method_103_code, 4, none, true, 2),
  (10, ⟨"java/util/Arrays", "fill", "([IIII)V"⟩, prog_28_method_104_code, 5, none, true, 4),
  (11, ⟨"java/lang/Math", "max", "(II)I"⟩, prog_20_method_65_code, 2, (some .int), true, 2),
  (11, ⟨"java/lang/Math", "min", "(II)I"⟩, prog_20_method_69_code, 2, (some .int), true, 2),
  (12, ⟨"QuietCheckerLaw", "law", "([I)Z"⟩, code, 7, (some .boolean), false, 1),
  (12, ⟨"QuietCheckerLaw", "put", "(LQuietChecker;III)I"⟩, method_3_code, 5, (some .int), true, 4),
  (12, ⟨"QuietCheckerLaw", "run", "(LQuietChecker;I[J)I"⟩, method_4_code, 4, (some .int), true, 3),
  (12, ⟨"QuietCheckerLaw", "twin", "(LQuietChecker;I[J)I"⟩, method_5_code, 4, (some .int), true, 3),
  (12, ⟨"QuietCheckerLaw", "value", "(LQuietChecker;II[J)I"⟩, method_6_code, 5, (some .int), true, 4),
  (12, ⟨"QuietCheckerLaw", "note", "(LQuietChecker;I[J)I"⟩, method_7_code, 4, (some .int), true, 3),
  (12, ⟨"QuietCheckerLaw", "letter", "(LQuietChecker;IZI[J)I"⟩, method_8_code, 6, (some .int), true, 5)]
def pm_m (mi : Nat) : Nat × MethodName × ByteArray × Nat × Option FieldType × Bool × Nat := pm_mt.getD mi (0, ⟨"", "", ""⟩, ⟨#[]⟩, 0, none, false, 0)
def pm_ow (mi : Nat) : Nat := (pm_m mi).1
def pm_nm (mi : Nat) : MethodName := (pm_m mi).2.1
def pm_by (mi : Nat) : ByteArray := (pm_m mi).2.2.1
def pm_mx (mi : Nat) : Nat := (pm_m mi).2.2.2.1
def pm_rt (mi : Nat) : Option FieldType := (pm_m mi).2.2.2.2.1
def pm_sc (mi : Nat) : Bool := (pm_m mi).2.2.2.2.2.1
def pm_np (mi : Nat) : Nat := (pm_m mi).2.2.2.2.2.2
/-- where the words on each method stand in lw_tbl: its code; instance or static; selects; its owner is initialised -/
def pm_mp : List (Nat × Nat × Nat × Nat) := [(1743, 1742, 100, 114), (1533, 1531, 1532, 114), (1562, 1561, 0, 114), (1552, 1551, 0, 114), (1549, 1548, 58, 114), (1545, 1544, 57, 114), (1556, 1555, 59, 114), (1566, 1565, 60, 114), (1579, 1578, 61, 114), (1615, 1614, 70, 114), (1627, 1626, 73, 114), (1632, 1631, 74, 114), (1648, 1647, 78, 114), (1623, 1622, 72, 114), (1619, 1618, 71, 114), (1583, 1582, 62, 114), (1672, 1671, 84, 114), (1611, 1610, 69, 114), (1607, 1606, 68, 114), (1640, 1639, 76, 114), (1591, 1590, 64, 114), (1587, 1586, 63, 114), (1595, 1594, 65, 114), (1599, 1598, 66, 114), (1688, 1687, 88, 114), (1603, 1602, 67, 114), (1636, 1635, 75, 114), (1644, 1643, 77, 114), (1652, 1651, 79, 114), (1656, 1655, 80, 114), (1676, 1675, 85, 114), (1680, 1679, 86, 114), (1684, 1683, 87, 114), (1668, 1667, 83, 114), (1664, 1663, 82, 114), (1660, 1659, 81, 114), (1692, 1691, 89, 114), (1696, 1695, 90, 114), (1700, 1699, 91, 114), (1704, 1703, 92, 114), (1727, 1726, 0, 114), (1724, 1723, 97, 114), (1708, 1707, 93, 114), (1712, 1711, 94, 114), (1716, 1715, 95, 114), (1731, 1730, 98, 114), (1720, 1719, 96, 114), (1541, 1539, 1540, 114), (1739, 1738, 99, 114), (1735, 1733, 1734, 114), (1762, 1761, 0, 114), (1759, 1758, 103, 114), (1755, 1754, 102, 114), (1751, 1750, 101, 114), (1747, 1745, 1746, 114), (1770, 1769, 104, 114), (1766, 1764, 1765, 114), (1774, 1772, 1773, 114), (1778, 1776, 1777, 114), (1782, 1780, 1781, 114), (1786, 1784, 1785, 114), (446, 444, 445, 108), (602, 600, 601, 108), (635, 633, 634, 108), (619, 617, 618, 108), (594, 592, 593, 108), (598, 597, 14, 108), (631, 629, 630, 108), (822, 820, 821, 108), (1325, 1323, 1324, 108), (1329, 1327, 1328, 108), (749, 748, 0, 107), (752, 751, 0, 107), (425, 423, 424, 107), (442, 440, 441, 107), (813, 811, 812, 107), (626, 624, 625, 107), (673, 671, 672, 107), (900, 898, 899, 107), (904, 902, 903, 107), (736, 734, 735, 107), (732, 730, 731, 107), (682, 680, 681, 107), (790, 788, 789, 107), (648, 646, 647, 112), (552, 550, 551, 112), (558, 556, 557, 112), (702, 700, 701, 112), (450, 448, 449, 110), (543, 542, 6, 110), (455, 454, 0, 110), (459, 458, 1, 110), (466, 465, 2, 110), (479, 478, 3, 110), (539, 538, 5, 110), (495, 494, 4, 110), (462, 461, 0, 110), (471, 470, 0, 110), (438, 436, 437, 109), (548, 547, 7, 109), (571, 570, 9, 109), (581, 580, 11, 109), (585, 584, 12, 109), (740, 739, 31, 109), (678, 677, 21, 109), (575, 574, 10, 109), (589, 588, 13, 109), (805, 804, 39, 109), (809, 808, 40, 109), (567, 566, 8, 109), (799, 798, 38, 109), (607, 606, 15, 109), (615, 614, 16, 109), (644, 643, 17, 109), (659, 658, 18, 109), (663, 662, 19, 109), (774, 773, 34, 109), (795, 794, 37, 109), (778, 777, 35, 109), (782, 781, 36, 109), (686, 685, 22, 109), (690, 689, 23, 109), (694, 693, 24, 109), (698, 697, 25, 109), (712, 711, 26, 109), (716, 715, 27, 109), (720, 719, 28, 109), (724, 723, 29, 109), (728, 727, 30, 109), (669, 668, 20, 109), (756, 755, 33, 109), (746, 745, 32, 109), (951, 949, 950, 113), (1290, 1288, 1289, 113), (1295, 1294, 56, 113), (957, 955, 956, 113), (1300, 1298, 1299, 113), (962, 961, 42, 113), (1272, 1271, 54, 113), (1279, 1278, 0, 113), (1276, 1275, 55, 113), (974, 973, 45, 113), (982, 981, 47, 113), (966, 965, 43, 113), (996, 995, 50, 113), (990, 989, 49, 113), (986, 985, 48, 113), (1000, 999, 51, 113), (1004, 1003, 52, 113), (1268, 1267, 53, 113), (970, 969, 44, 113), (978, 977, 46, 113), (410, 408, 409, 106), (421, 419, 420, 106), (831, 829, 830, 106), (931, 929, 930, 106), (1286, 1284, 1285, 106), (1307, 1305, 1306, 106), (1314, 1312, 1313, 106), (1321, 1319, 1320, 106), (818, 816, 817, 106), (413, 412, 0, 106), (417, 416, 0, 106), (485, 483, 484, 118), (499, 497, 498, 118), (489, 487, 488, 118), (503, 501, 502, 118), (506, 505, 0, 119), (1012, 1011, 0, 117), (434, 433, 0, 117), (1009, 1008, 0, 117), (907, 906, 0, 115), (428, 427, 0, 115)]
/-- fields by owner and place in its pool: (place, class, slot, where the word stands) -/
def pm_gfl : List (List (Nat × Nat × Nat × Nat)) := [
  [(9, 0, 0, 337), (17, 0, 1, 338), (21, 0, 2, 340), (24, 0, 6, 348), (39, 3, 2, 181), (43, 1, 4, 158), (64, 0, 9, 351), (67, 0, 3, 342), (70, 0, 4, 344), (73, 0, 7, 349), (76, 3, 13, 205), (79, 0, 8, 350), (82, 0, 5, 346), (87, 3, 12, 203), (90, 3, 10, 198), (93, 3, 11, 200), (148, 3, 4, 186), (154, 3, 6, 192), (172, 3, 7, 194)],
  [(9, 1, 0, 153), (15, 1, 1, 154), (19, 1, 2, 155), (22, 1, 3, 156), (26, 1, 4, 157)],
  [(11, 2, 0, 297), (19, 3, 0, 177), (26, 2, 1, 298), (35, 2, 2, 299), (45, 2, 9, 306), (51, 2, 3, 300), (55, 2, 6, 303), (59, 2, 7, 304), (62, 3, 1, 178), (91, 3, 12, 201), (94, 3, 13, 204), (101, 3, 15, 210), (104, 4, 4, 269), (107, 2, 8, 305), (110, 4, 0, 261), (114, 4, 1, 263), (118, 2, 10, 307), (134, 4, 2, 265), (150, 3, 2, 183), (171, 4, 3, 267), (180, 2, 5, 302), (183, 3, 6, 191), (186, 2, 4, 301), (239, 3, 14, 209), (348, 1, 4, 161)],
  [(11, 3, 0, 176), (20, 3, 2, 180), (24, 3, 3, 184), (28, 3, 4, 185), (31, 3, 6, 189), (34, 3, 7, 193), (37, 3, 8, 195), (40, 3, 9, 196), (44, 3, 10, 197), (47, 3, 11, 199), (56, 3, 1, 179), (69, 3, 5, 187), (72, 3, 12, 202), (75, 3, 13, 206), (78, 3, 14, 207), (81, 3, 15, 212), (89, 1, 4, 159)],
  [(9, 4, 5, 270), (17, 4, 0, 260), (21, 4, 1, 262), (25, 4, 2, 264), (28, 4, 3, 266), (37, 4, 6, 271), (41, 4, 4, 268), (44, 4, 7, 272), (65, 4, 8, 273)],
  [(9, 5, 0, 373), (16, 5, 2, 375), (25, 5, 3, 376), (29, 5, 4, 377), (33, 5, 5, 378), (39, 5, 6, 379), (43, 5, 7, 380), (46, 5, 1, 374), (62, 5, 9, 382), (76, 5, 10, 383), (79, 3, 15, 211), (105, 5, 8, 381), (116, 0, 5, 347), (126, 0, 1, 339), (129, 0, 3, 343), (132, 0, 2, 341), (135, 3, 6, 190), (139, 3, 2, 182), (151, 1, 4, 160), (157, 3, 5, 188), (160, 3, 14, 208), (163, 0, 4, 345)],
  [(7, 6, 1, 1338), (13, 6, 2, 1339), (16, 6, 21, 1358), (20, 6, 22, 1359), (23, 6, 23, 1360), (26, 6, 24, 1361), (29, 6, 25, 1362), (32, 6, 26, 1363), (36, 6, 27, 1364), (39, 6, 28, 1365), (42, 6, 29, 1366), (45, 6, 30, 1367), (48, 6, 31, 1368), (51, 6, 32, 1369), (54, 6, 33, 1370), (57, 6, 34, 1371), (60, 6, 35, 1372), (63, 6, 36, 1373), (66, 6, 39, 1376), (69, 6, 40, 1377), (72, 6, 41, 1378), (75, 6, 45, 1382), (78, 6, 46, 1383), (81, 6, 47, 1384), (84, 6, 48, 1385), (87, 6, 49, 1386), (90, 6, 55, 1392), (93, 6, 56, 1393), (96, 6, 57, 1394), (99, 6, 59, 1396), (102, 6, 60, 1397), (105, 6, 61, 1398), (108, 6, 62, 1399), (111, 6, 63, 1400), (114, 6, 0, 1337), (118, 6, 3, 1340), (129, 6, 4, 1341), (132, 6, 5, 1342), (135, 6, 7, 1344), (142, 6, 6, 1343), (162, 6, 8, 1345), (165, 6, 9, 1346), (193, 6, 10, 1347), (205, 6, 11, 1348), (208, 6, 12, 1349), (215, 6, 38, 1375), (218, 6, 20, 1357), (221, 6, 42, 1379), (228, 6, 13, 1350), (240, 6, 14, 1351), (243, 6, 15, 1352), (246, 6, 18, 1355), (249, 6, 16, 1353), (252, 6, 58, 1395), (328, 6, 17, 1354), (334, 6, 37, 1374), (343, 6, 19, 1356), (366, 6, 44, 1381), (372, 6, 43, 1380), (383, 6, 50, 1387), (386, 6, 52, 1389), (392, 6, 51, 1388), (395, 6, 54, 1391), (405, 6, 53, 1390)],
  [],
  [],
  [],
  [],
  [],
  []]
/-- calls by owner and place in its pool: (place, method, where the word stands) -/
def pm_ivl : List (List (Nat × Nat × Nat)) := [
  [(27, 172, 952), (49, 67, 1291), (53, 134, 1292), (57, 79, 1296), (61, 71, 992), (96, 137, 959), (100, 143, 963), (103, 150, 967), (107, 141, 971), (110, 151, 975), (114, 142, 979), (117, 146, 983), (120, 147, 997), (123, 148, 1001), (126, 149, 1265), (129, 138, 1269), (132, 144, 993), (137, 140, 1273), (141, 139, 1277), (144, 78, 991), (151, 145, 987), (157, 63, 1005), (160, 72, 1006), (163, 170, 1007), (169, 80, 1264)],
  [(30, 62, 620), (34, 66, 595), (38, 63, 632), (42, 69, 1330)],
  [(48, 74, 439), (65, 88, 447), (69, 99, 545), (72, 85, 549), (79, 109, 564), (82, 113, 641), (85, 110, 796), (88, 107, 802), (97, 101, 578), (121, 102, 582), (137, 65, 591), (141, 62, 599), (144, 100, 568), (147, 105, 572), (153, 106, 586), (160, 108, 806), (167, 75, 810), (189, 61, 603), (190, 111, 604), (193, 76, 623), (199, 86, 638), (202, 112, 612), (208, 121, 687), (212, 103, 737), (220, 82, 679), (223, 64, 616), (236, 84, 645), (241, 114, 656), (244, 115, 660), (247, 104, 675), (254, 116, 771), (260, 117, 792), (263, 129, 666), (267, 120, 683), (273, 130, 753), (276, 131, 743), (280, 118, 775), (283, 119, 779), (289, 83, 787), (292, 122, 691), (301, 123, 695), (316, 87, 699), (319, 124, 709), (322, 125, 713), (325, 126, 717), (328, 127, 721), (331, 80, 741), (334, 67, 742), (335, 128, 725), (339, 81, 729), (342, 77, 670), (345, 71, 747), (349, 72, 750)],
  [(50, 172, 426), (66, 61, 443), (85, 62, 627), (92, 64, 814), (96, 67, 628), (100, 63, 674), (103, 79, 901), (107, 171, 905), (110, 80, 733)],
  [(31, 172, 451), (47, 90, 452), (50, 91, 456), (54, 89, 540), (68, 96, 460), (72, 92, 463), (75, 97, 469), (78, 93, 476), (81, 94, 536), (98, 163, 482), (103, 95, 492), (110, 164, 496)],
  [(50, 161, 411), (54, 162, 415), (58, 73, 422), (66, 169, 432), (72, 98, 435), (85, 78, 897), (92, 71, 923), (108, 132, 948), (112, 135, 954), (119, 133, 1287), (122, 136, 1297), (142, 69, 1322), (147, 70, 1326), (154, 68, 819)],
  [(138, 4, 1546), (145, 3, 1550), (149, 6, 1553), (152, 2, 1560), (155, 7, 1563), (158, 8, 1576), (196, 5, 1542), (199, 10, 1624), (202, 9, 1612), (211, 13, 1620), (225, 17, 1608), (231, 14, 1616), (237, 11, 1629), (255, 20, 1588), (259, 23, 1596), (263, 24, 1685), (266, 25, 1600), (269, 15, 1580), (273, 21, 1584), (276, 27, 1641), (279, 28, 1649), (283, 29, 1653), (286, 30, 1673), (289, 31, 1677), (292, 32, 1681), (295, 36, 1689), (299, 37, 1693), (302, 12, 1645), (306, 38, 1697), (309, 39, 1701), (313, 42, 1705), (316, 41, 1721), (319, 45, 1728), (322, 18, 1604), (325, 26, 1633), (331, 19, 1637), (337, 35, 1657), (340, 16, 1669), (346, 34, 1661), (350, 33, 1665), (354, 40, 1725), (357, 43, 1709), (360, 44, 1713), (363, 46, 1717), (369, 22, 1592), (375, 48, 1736), (379, 0, 1740), (389, 51, 1756), (398, 52, 1752), (401, 50, 1760), (408, 53, 1748), (411, 55, 1767)],
  [(153, 86, 555)],
  [(335, 165, 486), (492, 166, 500), (495, 167, 504)],
  [],
  [(13, 168, 1010), (304, 172, 1084)],
  [],
  [(7, 154, 828), (17, 155, 928), (23, 156, 1283), (26, 157, 1304), (30, 158, 1311), (33, 159, 1318), (43, 152, 407), (47, 1, 1530), (48, 153, 418), (52, 47, 1538), (58, 49, 1732), (62, 54, 1744), (65, 56, 1763), (69, 57, 1771), (72, 58, 1775), (76, 59, 1779), (77, 160, 815), (80, 60, 1783)]]
def pm_kll : List (List (Nat × Int64 × Nat)) := [
  [(85, 2, 958)],
  [],
  [],
  [],
  [(84, 4294967296, 467), (86, 10, 468)],
  [(166, 255, 414)],
  [(121, 255, 1534), (123, 10, 1535), (125, 31, 1536), (127, 127, 1537), (169, 48, 1557), (171, 4294967296, 1558), (173, 4294967295, 1559), (175, -1, 1567), (177, 7370082, 1568), (179, 7562595, 1569), (181, 6714734, 1570), (183, 125780071117422, 1571), (185, 26982, 1572), (187, 1701606245, 1573), (189, 512852847717, 1574), (191, 1936419184, 1575), (235, 64, 1628)],
  [],
  [],
  [],
  [],
  [],
  [(41, 4294967295, 1787)]]
