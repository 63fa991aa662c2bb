def T_K : u_T := fun k => match k with
  | 0 => ("KeyCustody", "group", "LKeyCustody$Group;", true)
  | 1 => ("KeyCustody", "board", "LKeyCustody$Board;", true)
  | 2 => ("KeyCustody", "week", "LKeyCustody$Week;", true)
  | 3 => ("KeyCustody", "shares", "[I", true)
  | 4 => ("KeyCustody", "sums", "[I", true)
  | 5 => ("KeyCustody", "founding", "[I", true)
  | _ => ("KeyCustody", "weekNumber", "I", false)
def ty_K : Nat → FieldType := fun k => match k with
  | 0 => .object "KeyCustody$Group"
  | 1 => .object "KeyCustody$Board"
  | 2 => .object "KeyCustody$Week"
  | 3 => .array .int
  | 4 => .array .int
  | 5 => .array .int
  | _ => .int
theorem nm_K : ∀ a, a < 7 → ∀ b, b < 7 → a ≠ b → (T_K a).2.1 ≠ (T_K b).2.1 := by decide +kernel
theorem ok_K : ∀ k, k < 7 → parseFieldDescriptor (T_K k).2.2.1 = some (ty_K k) := by decide +kernel
theorem ui_K : ∀ w ∈ u_ws "KeyCustody" T_K 7, w ∈ lw_good := by decide +kernel
def T_M : u_T := fun k => match k with
  | 0 => ("KeyCustodyModel", "thrownCode", "I", false)
  | 1 => ("KeyCustodyModel", "p", "I", false)
  | 2 => ("KeyCustodyModel", "q", "I", false)
  | 3 => ("KeyCustodyModel", "g", "I", false)
  | 4 => ("KeyCustodyModel", "founded", "Z", false)
  | 5 => ("KeyCustodyModel", "week", "I", false)
  | 6 => ("KeyCustodyModel", "share", "[I", true)
  | 7 => ("KeyCustodyModel", "wiped", "[Z", true)
  | 8 => ("KeyCustodyModel", "sums", "[I", true)
  | 9 => ("KeyCustodyModel", "kind", "[I", true)
  | 10 => ("KeyCustodyModel", "dealt", "[Z", true)
  | 11 => ("KeyCustodyModel", "coef", "[I", true)
  | 12 => ("KeyCustodyModel", "commit", "[I", true)
  | 13 => ("KeyCustodyModel", "had", "[I", true)
  | 14 => ("KeyCustodyModel", "complained", "[Z", true)
  | 15 => ("KeyCustodyModel", "settled", "[Z", true)
  | 16 => ("KeyCustodyModel", "posts", "I", false)
  | _ => ("KeyCustodyModel", "post", "[I", true)
def ty_M : Nat → FieldType := fun k => match k with
  | 0 => .int
  | 1 => .int
  | 2 => .int
  | 3 => .int
  | 4 => .boolean
  | 5 => .int
  | 6 => .array .int
  | 7 => .array .boolean
  | 8 => .array .int
  | 9 => .array .int
  | 10 => .array .boolean
  | 11 => .array .int
  | 12 => .array .int
  | 13 => .array .int
  | 14 => .array .boolean
  | 15 => .array .boolean
  | 16 => .int
  | _ => .array .int
theorem nm_M : ∀ a, a < 18 → ∀ b, b < 18 → a ≠ b → (T_M a).2.1 ≠ (T_M b).2.1 := by decide +kernel
theorem ok_M : ∀ k, k < 18 → parseFieldDescriptor (T_M k).2.2.1 = some (ty_M k) := by decide +kernel
theorem ui_M : ∀ w ∈ u_ws "KeyCustodyModel" T_M 18, w ∈ lw_good := by decide +kernel
def T_B : u_T := fun k => match k with
  | 0 => ("KeyCustody$Board", "cells", "[I", true)
  | _ => ("KeyCustody$Board", "size", "I", false)
def ty_B : Nat → FieldType := fun k => match k with
  | 0 => .array .int
  | _ => .int
theorem nm_B : ∀ a, a < 2 → ∀ b, b < 2 → a ≠ b → (T_B a).2.1 ≠ (T_B b).2.1 := by decide +kernel
theorem ok_B : ∀ k, k < 2 → parseFieldDescriptor (T_B k).2.2.1 = some (ty_B k) := by decide +kernel
theorem ui_B : ∀ w ∈ u_ws "KeyCustody$Board" T_B 2, w ∈ lw_good := by decide +kernel
def T_G : u_T := fun k => match k with
  | 0 => ("KeyCustody$Group", "p", "I", false)
  | 1 => ("KeyCustody$Group", "q", "I", false)
  | _ => ("KeyCustody$Group", "g", "I", false)
def ty_G : Nat → FieldType := fun k => match k with
  | 0 => .int
  | 1 => .int
  | _ => .int
theorem nm_G : ∀ a, a < 3 → ∀ b, b < 3 → a ≠ b → (T_G a).2.1 ≠ (T_G b).2.1 := by decide +kernel
theorem ok_G : ∀ k, k < 3 → parseFieldDescriptor (T_G k).2.2.1 = some (ty_G k) := by decide +kernel
theorem ui_G : ∀ w ∈ u_ws "KeyCustody$Group" T_G 3, w ∈ lw_good := by decide +kernel
def T_V : u_T := fun k => match k with
  | 0 => ("KeyCustody$Week", "group", "LKeyCustody$Group;", true)
  | 1 => ("KeyCustody$Week", "kinds", "[I", true)
  | 2 => ("KeyCustody$Week", "coefficients", "[[I", true)
  | 3 => ("KeyCustody$Week", "commitments", "[[I", true)
  | 4 => ("KeyCustody$Week", "had", "[[I", true)
  | 5 => ("KeyCustody$Week", "complainers", "[I", true)
  | 6 => ("KeyCustody$Week", "contented", "[I", true)
  | 7 => ("KeyCustody$Week", "done", "I", false)
  | _ => ("KeyCustody$Week", "dealers", "I", false)
def ty_V : Nat → FieldType := fun k => match k with
  | 0 => .object "KeyCustody$Group"
  | 1 => .array .int
  | 2 => .array (.array .int)
  | 3 => .array (.array .int)
  | 4 => .array (.array .int)
  | 5 => .array .int
  | 6 => .array .int
  | 7 => .int
  | _ => .int
theorem nm_V : ∀ a, a < 9 → ∀ b, b < 9 → a ≠ b → (T_V a).2.1 ≠ (T_V b).2.1 := by decide +kernel
theorem ok_V : ∀ k, k < 9 → parseFieldDescriptor (T_V k).2.2.1 = some (ty_V k) := by decide +kernel
theorem ui_V : ∀ w ∈ u_ws "KeyCustody$Week" T_V 9, w ∈ lw_good := by decide +kernel
abbrev cls_all : List vw_C := [("KeyCustody", T_K, 7), ("KeyCustodyModel", T_M, 18), ("KeyCustody$Board", T_B, 2), ("KeyCustody$Group", T_G, 3), ("KeyCustody$Week", T_V, 9)]
