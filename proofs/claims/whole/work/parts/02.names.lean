def RX0 : String := "FlashTree$Flash"
def TX0 : u_T := fun k => match k with
  | 0 => ("FlashTree$Flash", "cells", "[I", true)
  | 1 => ("FlashTree$Flash", "erasures", "[I", true)
  | 2 => ("FlashTree$Flash", "done", "I", false)
  | 3 => ("FlashTree$Flash", "left", "I", false)
  | _ => ("FlashTree$Flash", "dark", "Z", false)
def tyX0 : Nat → FieldType := fun k => match k with
  | 0 => .array .int
  | 1 => .array .int
  | 2 => .int
  | 3 => .int
  | _ => .boolean
theorem nmX0 : ∀ a, a < 5 → ∀ b, b < 5 → a ≠ b → (TX0 a).2.1 ≠ (TX0 b).2.1 := by decide +kernel
theorem tyX0_ok : ∀ k, k < 5 → parseFieldDescriptor (TX0 k).2.2.1 = some (tyX0 k) := by decide +kernel
def RX1 : String := "FlashTree$Folder"
def TX1 : u_T := fun k => match k with
  | 0 => ("FlashTree$Folder", "pair", "I", true)
  | 1 => ("FlashTree$Folder", "flash", "LFlashTree$Flash;", true)
  | 2 => ("FlashTree$Folder", "scratch", "LFlashTree$Operations;", true)
  | _ => ("FlashTree$Folder", "list", "LFlashTree$Listing;", true)
def tyX1 : Nat → FieldType := fun k => match k with
  | 0 => .int
  | 1 => .object "FlashTree$Flash"
  | 2 => .object "FlashTree$Operations"
  | _ => .object "FlashTree$Listing"
theorem nmX1 : ∀ a, a < 4 → ∀ b, b < 4 → a ≠ b → (TX1 a).2.1 ≠ (TX1 b).2.1 := by decide +kernel
theorem tyX1_ok : ∀ k, k < 4 → parseFieldDescriptor (TX1 k).2.2.1 = some (tyX1 k) := by decide +kernel
def RX2 : String := "FlashTree$Listing"
def TX2 : u_T := fun k => match k with
  | 0 => ("FlashTree$Listing", "names", "[I", true)
  | 1 => ("FlashTree$Listing", "pairs", "[I", true)
  | 2 => ("FlashTree$Listing", "lengths", "[I", true)
  | 3 => ("FlashTree$Listing", "contents", "[J", true)
  | 4 => ("FlashTree$Listing", "count", "I", false)
  | 5 => ("FlashTree$Listing", "markPair", "I", false)
  | _ => ("FlashTree$Listing", "markName", "I", false)
def tyX2 : Nat → FieldType := fun k => match k with
  | 0 => .array .int
  | 1 => .array .int
  | 2 => .array .int
  | 3 => .array .long
  | 4 => .int
  | 5 => .int
  | _ => .int
theorem nmX2 : ∀ a, a < 7 → ∀ b, b < 7 → a ≠ b → (TX2 a).2.1 ≠ (TX2 b).2.1 := by decide +kernel
theorem tyX2_ok : ∀ k, k < 7 → parseFieldDescriptor (TX2 k).2.2.1 = some (tyX2 k) := by decide +kernel
def RX3 : String := "FlashTree$Operations"
def TX3 : u_T := fun k => match k with
  | 0 => ("FlashTree$Operations", "bytes", "[I", true)
  | _ => ("FlashTree$Operations", "length", "I", false)
def tyX3 : Nat → FieldType := fun k => match k with
  | 0 => .array .int
  | _ => .int
theorem nmX3 : ∀ a, a < 2 → ∀ b, b < 2 → a ≠ b → (TX3 a).2.1 ≠ (TX3 b).2.1 := by decide +kernel
theorem tyX3_ok : ∀ k, k < 2 → parseFieldDescriptor (TX3 k).2.2.1 = some (tyX3 k) := by decide +kernel
def RX4 : String := "FlashTree"
def TX4 : u_T := fun k => match k with
  | 0 => ("FlashTree", "flash", "LFlashTree$Flash;", true)
  | 1 => ("FlashTree", "folders", "[LFlashTree$Folder;", true)
  | 2 => ("FlashTree", "there", "[Z", true)
  | 3 => ("FlashTree", "below", "[Z", true)
  | 4 => ("FlashTree", "queue", "[I", true)
  | 5 => ("FlashTree", "change", "LFlashTree$Operations;", true)
  | _ => ("FlashTree", "mounted", "Z", false)
def tyX4 : Nat → FieldType := fun k => match k with
  | 0 => .object "FlashTree$Flash"
  | 1 => .array (.object "FlashTree$Folder")
  | 2 => .array .boolean
  | 3 => .array .boolean
  | 4 => .array .int
  | 5 => .object "FlashTree$Operations"
  | _ => .boolean
theorem nmX4 : ∀ a, a < 7 → ∀ b, b < 7 → a ≠ b → (TX4 a).2.1 ≠ (TX4 b).2.1 := by decide +kernel
theorem tyX4_ok : ∀ k, k < 7 → parseFieldDescriptor (TX4 k).2.2.1 = some (tyX4 k) := by decide +kernel
def RX5 : String := "FlashTreeModel"
def TX5 : u_T := fun k => match k with
  | 0 => ("FlashTreeModel", "flash", "[I", true)
  | 1 => ("FlashTreeModel", "wears", "[I", true)
  | 2 => ("FlashTreeModel", "off", "Z", false)
  | 3 => ("FlashTreeModel", "mounted", "Z", false)
  | 4 => ("FlashTreeModel", "cutSet", "Z", false)
  | 5 => ("FlashTreeModel", "left", "I", false)
  | 6 => ("FlashTreeModel", "units", "I", false)
  | 7 => ("FlashTreeModel", "names", "[I", true)
  | 8 => ("FlashTreeModel", "kinds", "[I", true)
  | 9 => ("FlashTreeModel", "args", "[I", true)
  | 10 => ("FlashTreeModel", "bytes", "[J", true)
  | 11 => ("FlashTreeModel", "count", "I", false)
  | 12 => ("FlashTreeModel", "markPair", "I", false)
  | 13 => ("FlashTreeModel", "markName", "I", false)
  | 14 => ("FlashTreeModel", "end", "I", false)
  | 15 => ("FlashTreeModel", "ops", "[I", true)
  | 16 => ("FlashTreeModel", "length", "I", false)
  | 17 => ("FlashTreeModel", "anew", "[I", true)
  | _ => ("FlashTreeModel", "much", "I", false)
def tyX5 : Nat → FieldType := fun k => match k with
  | 0 => .array .int
  | 1 => .array .int
  | 2 => .boolean
  | 3 => .boolean
  | 4 => .boolean
  | 5 => .int
  | 6 => .int
  | 7 => .array .int
  | 8 => .array .int
  | 9 => .array .int
  | 10 => .array .long
  | 11 => .int
  | 12 => .int
  | 13 => .int
  | 14 => .int
  | 15 => .array .int
  | 16 => .int
  | 17 => .array .int
  | _ => .int
theorem nmX5 : ∀ a, a < 19 → ∀ b, b < 19 → a ≠ b → (TX5 a).2.1 ≠ (TX5 b).2.1 := by decide +kernel
theorem tyX5_ok : ∀ k, k < 19 → parseFieldDescriptor (TX5 k).2.2.1 = some (tyX5 k) := by decide +kernel
abbrev vwCl : List vw_C := [(RX0, TX0, 5), (RX1, TX1, 4), (RX2, TX2, 7), (RX3, TX3, 2), (RX4, TX4, 7), (RX5, TX5, 19)]
/-- the type of slot k of class ci -/
def ftyS : List (Nat → FieldType) := [tyX0, tyX1, tyX2, tyX3, tyX4, tyX5]
def fty (ci k : Nat) : FieldType := (ftyS.getD ci (fun _ => .int)) k
def nSl (ci : Nat) : Nat := (vwCl.getD ci ("", fun _ => ("", "", "", false), 0)).2.2
def cNames : List String := ["FlashTree$Flash", "FlashTree$Folder", "FlashTree$Listing", "FlashTree$Operations", "FlashTree", "FlashTreeModel", "FlashTreeLaw"]
def cName (i : Nat) : String := cNames.getD i ""
