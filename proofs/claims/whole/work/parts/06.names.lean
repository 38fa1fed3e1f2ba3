/-! Names, fields, words: by program out of the claim's own listing. -/
def R_P : String := "NotePool"
def R_Base : String := "NotePool$Base"
def R_Bases : String := "NotePool$Bases"
def R_Block : String := "NotePool$Block"
def R_Chain : String := "NotePool$Chain"
def R_Draft : String := "NotePool$Draft"
def R_Key : String := "NotePool$Key"
def R_Output : String := "NotePool$Output"
def R_Spend : String := "NotePool$Spend"
def R_Tree : String := "NotePool$Tree"
def R_M : String := "NotePoolModel"
def R_Curve : String := "NotePool$Curve"
def R_Law : String := "NotePoolLaw"
def R_Math : String := "java/lang/Math"
def F_P : u_T := fun k => match k with
  | 0 => ("NotePool", "bases", "LNotePool$Bases;", true)
  | 1 => ("NotePool", "tree", "LNotePool$Tree;", true)
  | 2 => ("NotePool", "chain", "LNotePool$Chain;", true)
  | 3 => ("NotePool", "pending", "LNotePool$Draft;", true)
  | 4 => ("NotePool", "keys", "[LNotePool$Key;", true)
  | _ => ("NotePool", "keyCount", "I", false)
def t_P : Nat → FieldType := fun k => match k with
  | 0 => (.object "NotePool$Bases")
  | 1 => (.object "NotePool$Tree")
  | 2 => (.object "NotePool$Chain")
  | 3 => (.object "NotePool$Draft")
  | 4 => (.array (.object "NotePool$Key"))
  | _ => .int
theorem nm_P : ∀ a, a < 6 → ∀ b, b < 6 → a ≠ b → (F_P a).2.1 ≠ (F_P b).2.1 := by decide +kernel
theorem tk_P : ∀ k, k < 6 → parseFieldDescriptor (F_P k).2.2.1 = some (t_P k) := by decide +kernel
theorem in_P : ∀ w ∈ u_ws R_P F_P 6, w ∈ yT := by
  intro w h
  obtain ⟨k, hk, rfl⟩ := List.mem_map.mp h
  have hk := List.mem_range.mp hk
  rcases (by omega : k = 0 ∨ k = 1 ∨ k = 2 ∨ k = 3 ∨ k = 4 ∨ k = 5) with rfl | rfl | rfl | rfl | rfl | rfl
  · exact yT_in (List.mem_append_right _ (List.mem_append_right _ (List.mem_append_left _ (List.mem_of_getElem? (i := 91) (by decide +kernel))))) (by decide +kernel)
  · exact yT_in (List.mem_append_right _ (List.mem_append_right _ (List.mem_append_left _ (List.mem_of_getElem? (i := 93) (by decide +kernel))))) (by decide +kernel)
  · exact yT_in (List.mem_append_right _ (List.mem_append_right _ (List.mem_append_left _ (List.mem_of_getElem? (i := 95) (by decide +kernel))))) (by decide +kernel)
  · exact yT_in (List.mem_append_right _ (List.mem_append_right _ (List.mem_append_left _ (List.mem_of_getElem? (i := 97) (by decide +kernel))))) (by decide +kernel)
  · exact yT_in (List.mem_append_right _ (List.mem_append_right _ (List.mem_append_left _ (List.mem_of_getElem? (i := 99) (by decide +kernel))))) (by decide +kernel)
  · exact yT_in (List.mem_append_right _ (List.mem_append_right _ (List.mem_append_left _ (List.mem_of_getElem? (i := 101) (by decide +kernel))))) (by decide +kernel)
def F_Base : u_T := fun k => match k with
  | _ => ("NotePool$Base", "doubles", "[I", true)
def t_Base : Nat → FieldType := fun k => match k with
  | _ => (.array .int)
theorem nm_Base : ∀ a, a < 1 → ∀ b, b < 1 → a ≠ b → (F_Base a).2.1 ≠ (F_Base b).2.1 := by decide +kernel
theorem tk_Base : ∀ k, k < 1 → parseFieldDescriptor (F_Base k).2.2.1 = some (t_Base k) := by decide +kernel
theorem in_Base : ∀ w ∈ u_ws R_Base F_Base 1, w ∈ yT := by
  intro w h
  obtain ⟨k, hk, rfl⟩ := List.mem_map.mp h
  have hk := List.mem_range.mp hk
  rcases (by omega : k = 0) with rfl
  · exact yT_in (List.mem_append_right _ (List.mem_append_left _ (List.mem_of_getElem? (i := 45) (by decide +kernel)))) (by decide +kernel)
def F_Bases : u_T := fun k => match k with
  | 0 => ("NotePool$Bases", "g", "LNotePool$Base;", true)
  | 1 => ("NotePool$Bases", "v", "LNotePool$Base;", true)
  | 2 => ("NotePool$Bases", "\x72", "LNotePool$Base;", true)
  | 3 => ("NotePool$Bases", "a", "LNotePool$Base;", true)
  | _ => ("NotePool$Bases", "b", "LNotePool$Base;", true)
def t_Bases : Nat → FieldType := fun k => match k with
  | 0 => (.object "NotePool$Base")
  | 1 => (.object "NotePool$Base")
  | 2 => (.object "NotePool$Base")
  | 3 => (.object "NotePool$Base")
  | _ => (.object "NotePool$Base")
theorem nm_Bases : ∀ a, a < 5 → ∀ b, b < 5 → a ≠ b → (F_Bases a).2.1 ≠ (F_Bases b).2.1 := by decide +kernel
theorem tk_Bases : ∀ k, k < 5 → parseFieldDescriptor (F_Bases k).2.2.1 = some (t_Bases k) := by decide +kernel
theorem in_Bases : ∀ w ∈ u_ws R_Bases F_Bases 5, w ∈ yT := by
  intro w h
  obtain ⟨k, hk, rfl⟩ := List.mem_map.mp h
  have hk := List.mem_range.mp hk
  rcases (by omega : k = 0 ∨ k = 1 ∨ k = 2 ∨ k = 3 ∨ k = 4) with rfl | rfl | rfl | rfl | rfl
  · exact yT_in (List.mem_append_right _ (List.mem_append_left _ (List.mem_of_getElem? (i := 58) (by decide +kernel)))) (by decide +kernel)
  · exact yT_in (List.mem_append_right _ (List.mem_append_left _ (List.mem_of_getElem? (i := 60) (by decide +kernel)))) (by decide +kernel)
  · exact yT_in (List.mem_append_right _ (List.mem_append_left _ (List.mem_of_getElem? (i := 62) (by decide +kernel)))) (by decide +kernel)
  · exact yT_in (List.mem_append_right _ (List.mem_append_left _ (List.mem_of_getElem? (i := 64) (by decide +kernel)))) (by decide +kernel)
  · exact yT_in (List.mem_append_right _ (List.mem_append_left _ (List.mem_of_getElem? (i := 66) (by decide +kernel)))) (by decide +kernel)
def F_Block : u_T := fun k => match k with
  | 0 => ("NotePool$Block", "nullifiers", "[I", true)
  | 1 => ("NotePool$Block", "spendCount", "I", false)
  | 2 => ("NotePool$Block", "outputCount", "I", false)
  | 3 => ("NotePool$Block", "balance", "I", false)
  | _ => ("NotePool$Block", "rootBehind", "I", false)
def t_Block : Nat → FieldType := fun k => match k with
  | 0 => (.array .int)
  | 1 => .int
  | 2 => .int
  | 3 => .int
  | _ => .int
theorem nm_Block : ∀ a, a < 5 → ∀ b, b < 5 → a ≠ b → (F_Block a).2.1 ≠ (F_Block b).2.1 := by decide +kernel
theorem tk_Block : ∀ k, k < 5 → parseFieldDescriptor (F_Block k).2.2.1 = some (t_Block k) := by decide +kernel
theorem in_Block : ∀ w ∈ u_ws R_Block F_Block 5, w ∈ yT := by
  intro w h
  obtain ⟨k, hk, rfl⟩ := List.mem_map.mp h
  have hk := List.mem_range.mp hk
  rcases (by omega : k = 0 ∨ k = 1 ∨ k = 2 ∨ k = 3 ∨ k = 4) with rfl | rfl | rfl | rfl | rfl
  · exact yT_in (List.mem_append_right _ (List.mem_append_left _ (List.mem_of_getElem? (i := 141) (by decide +kernel)))) (by decide +kernel)
  · exact yT_in (List.mem_append_right _ (List.mem_append_left _ (List.mem_of_getElem? (i := 143) (by decide +kernel)))) (by decide +kernel)
  · exact yT_in (List.mem_append_right _ (List.mem_append_left _ (List.mem_of_getElem? (i := 145) (by decide +kernel)))) (by decide +kernel)
  · exact yT_in (List.mem_append_right _ (List.mem_append_left _ (List.mem_of_getElem? (i := 147) (by decide +kernel)))) (by decide +kernel)
  · exact yT_in (List.mem_append_right _ (List.mem_append_left _ (List.mem_of_getElem? (i := 149) (by decide +kernel)))) (by decide +kernel)
def F_Chain : u_T := fun k => match k with
  | 0 => ("NotePool$Chain", "blocks", "[LNotePool$Block;", true)
  | 1 => ("NotePool$Chain", "emptyRoot", "I", true)
  | 2 => ("NotePool$Chain", "count", "I", false)
  | _ => ("NotePool$Chain", "content", "I", false)
def t_Chain : Nat → FieldType := fun k => match k with
  | 0 => (.array (.object "NotePool$Block"))
  | 1 => .int
  | 2 => .int
  | _ => .int
theorem nm_Chain : ∀ a, a < 4 → ∀ b, b < 4 → a ≠ b → (F_Chain a).2.1 ≠ (F_Chain b).2.1 := by decide +kernel
theorem tk_Chain : ∀ k, k < 4 → parseFieldDescriptor (F_Chain k).2.2.1 = some (t_Chain k) := by decide +kernel
theorem in_Chain : ∀ w ∈ u_ws R_Chain F_Chain 4, w ∈ yT := by
  intro w h
  obtain ⟨k, hk, rfl⟩ := List.mem_map.mp h
  have hk := List.mem_range.mp hk
  rcases (by omega : k = 0 ∨ k = 1 ∨ k = 2 ∨ k = 3) with rfl | rfl | rfl | rfl
  · exact yT_in (List.mem_append_right _ (List.mem_append_left _ (List.mem_of_getElem? (i := 158) (by decide +kernel)))) (by decide +kernel)
  · exact yT_in (List.mem_append_right _ (List.mem_append_left _ (List.mem_of_getElem? (i := 160) (by decide +kernel)))) (by decide +kernel)
  · exact yT_in (List.mem_append_right _ (List.mem_append_left _ (List.mem_of_getElem? (i := 162) (by decide +kernel)))) (by decide +kernel)
  · exact yT_in (List.mem_append_right _ (List.mem_append_left _ (List.mem_of_getElem? (i := 164) (by decide +kernel)))) (by decide +kernel)
def F_Draft : u_T := fun k => match k with
  | 0 => ("NotePool$Draft", "spends", "[LNotePool$Spend;", true)
  | 1 => ("NotePool$Draft", "outputs", "[LNotePool$Output;", true)
  | 2 => ("NotePool$Draft", "spendCount", "I", false)
  | 3 => ("NotePool$Draft", "outputCount", "I", false)
  | 4 => ("NotePool$Draft", "balance", "I", false)
  | _ => ("NotePool$Draft", "turn", "I", false)
def t_Draft : Nat → FieldType := fun k => match k with
  | 0 => (.array (.object "NotePool$Spend"))
  | 1 => (.array (.object "NotePool$Output"))
  | 2 => .int
  | 3 => .int
  | 4 => .int
  | _ => .int
theorem nm_Draft : ∀ a, a < 6 → ∀ b, b < 6 → a ≠ b → (F_Draft a).2.1 ≠ (F_Draft b).2.1 := by decide +kernel
theorem tk_Draft : ∀ k, k < 6 → parseFieldDescriptor (F_Draft k).2.2.1 = some (t_Draft k) := by decide +kernel
theorem in_Draft : ∀ w ∈ u_ws R_Draft F_Draft 6, w ∈ yT := by
  intro w h
  obtain ⟨k, hk, rfl⟩ := List.mem_map.mp h
  have hk := List.mem_range.mp hk
  rcases (by omega : k = 0 ∨ k = 1 ∨ k = 2 ∨ k = 3 ∨ k = 4 ∨ k = 5) with rfl | rfl | rfl | rfl | rfl | rfl
  · exact yT_in (List.mem_append_right _ (List.mem_append_right _ (List.mem_append_left _ (List.mem_of_getElem? (i := 35) (by decide +kernel))))) (by decide +kernel)
  · exact yT_in (List.mem_append_right _ (List.mem_append_right _ (List.mem_append_left _ (List.mem_of_getElem? (i := 37) (by decide +kernel))))) (by decide +kernel)
  · exact yT_in (List.mem_append_right _ (List.mem_append_right _ (List.mem_append_left _ (List.mem_of_getElem? (i := 39) (by decide +kernel))))) (by decide +kernel)
  · exact yT_in (List.mem_append_right _ (List.mem_append_right _ (List.mem_append_left _ (List.mem_of_getElem? (i := 41) (by decide +kernel))))) (by decide +kernel)
  · exact yT_in (List.mem_append_right _ (List.mem_append_right _ (List.mem_append_left _ (List.mem_of_getElem? (i := 43) (by decide +kernel))))) (by decide +kernel)
  · exact yT_in (List.mem_append_right _ (List.mem_append_right _ (List.mem_append_left _ (List.mem_of_getElem? (i := 45) (by decide +kernel))))) (by decide +kernel)
def F_Key : u_T := fun k => match k with
  | 0 => ("NotePool$Key", "secret", "I", false)
  | 1 => ("NotePool$Key", "address", "I", false)
  | 2 => ("NotePool$Key", "found", "[Z", true)
  | 3 => ("NotePool$Key", "values", "[I", true)
  | 4 => ("NotePool$Key", "trapdoors", "[I", true)
  | _ => ("NotePool$Key", "nullifiers", "[I", true)
def t_Key : Nat → FieldType := fun k => match k with
  | 0 => .int
  | 1 => .int
  | 2 => (.array .boolean)
  | 3 => (.array .int)
  | 4 => (.array .int)
  | _ => (.array .int)
theorem nm_Key : ∀ a, a < 6 → ∀ b, b < 6 → a ≠ b → (F_Key a).2.1 ≠ (F_Key b).2.1 := by decide +kernel
theorem tk_Key : ∀ k, k < 6 → parseFieldDescriptor (F_Key k).2.2.1 = some (t_Key k) := by decide +kernel
theorem in_Key : ∀ w ∈ u_ws R_Key F_Key 6, w ∈ yT := by
  intro w h
  obtain ⟨k, hk, rfl⟩ := List.mem_map.mp h
  have hk := List.mem_range.mp hk
  rcases (by omega : k = 0 ∨ k = 1 ∨ k = 2 ∨ k = 3 ∨ k = 4 ∨ k = 5) with rfl | rfl | rfl | rfl | rfl | rfl
  · exact yT_in (List.mem_append_right _ (List.mem_append_right _ (List.mem_append_left _ (List.mem_of_getElem? (i := 71) (by decide +kernel))))) (by decide +kernel)
  · exact yT_in (List.mem_append_right _ (List.mem_append_right _ (List.mem_append_left _ (List.mem_of_getElem? (i := 73) (by decide +kernel))))) (by decide +kernel)
  · exact yT_in (List.mem_append_right _ (List.mem_append_right _ (List.mem_append_left _ (List.mem_of_getElem? (i := 75) (by decide +kernel))))) (by decide +kernel)
  · exact yT_in (List.mem_append_right _ (List.mem_append_right _ (List.mem_append_left _ (List.mem_of_getElem? (i := 77) (by decide +kernel))))) (by decide +kernel)
  · exact yT_in (List.mem_append_right _ (List.mem_append_right _ (List.mem_append_left _ (List.mem_of_getElem? (i := 79) (by decide +kernel))))) (by decide +kernel)
  · exact yT_in (List.mem_append_right _ (List.mem_append_right _ (List.mem_append_left _ (List.mem_of_getElem? (i := 81) (by decide +kernel))))) (by decide +kernel)
def F_Output : u_T := fun k => match k with
  | 0 => ("NotePool$Output", "address", "I", false)
  | 1 => ("NotePool$Output", "value", "I", false)
  | 2 => ("NotePool$Output", "trapdoor", "I", false)
  | 3 => ("NotePool$Output", "commitment", "I", false)
  | 4 => ("NotePool$Output", "sealPoint", "I", false)
  | 5 => ("NotePool$Output", "sealedValue", "I", false)
  | 6 => ("NotePool$Output", "sealedTrapdoor", "I", false)
  | 7 => ("NotePool$Output", "coverScalar", "I", false)
  | _ => ("NotePool$Output", "cover", "I", false)
def t_Output : Nat → FieldType := fun k => match k with
  | 0 => .int
  | 1 => .int
  | 2 => .int
  | 3 => .int
  | 4 => .int
  | 5 => .int
  | 6 => .int
  | 7 => .int
  | _ => .int
theorem nm_Output : ∀ a, a < 9 → ∀ b, b < 9 → a ≠ b → (F_Output a).2.1 ≠ (F_Output b).2.1 := by decide +kernel
theorem tk_Output : ∀ k, k < 9 → parseFieldDescriptor (F_Output k).2.2.1 = some (t_Output k) := by decide +kernel
theorem in_Output : ∀ w ∈ u_ws R_Output F_Output 9, w ∈ yT := by
  intro w h
  obtain ⟨k, hk, rfl⟩ := List.mem_map.mp h
  have hk := List.mem_range.mp hk
  rcases (by omega : k = 0 ∨ k = 1 ∨ k = 2 ∨ k = 3 ∨ k = 4 ∨ k = 5 ∨ k = 6 ∨ k = 7 ∨ k = 8) with rfl | rfl | rfl | rfl | rfl | rfl | rfl | rfl | rfl
  · exact yT_in (List.mem_append_right _ (List.mem_append_right _ (List.mem_append_left _ (List.mem_of_getElem? (i := 0) (by decide +kernel))))) (by decide +kernel)
  · exact yT_in (List.mem_append_right _ (List.mem_append_right _ (List.mem_append_left _ (List.mem_of_getElem? (i := 2) (by decide +kernel))))) (by decide +kernel)
  · exact yT_in (List.mem_append_right _ (List.mem_append_right _ (List.mem_append_left _ (List.mem_of_getElem? (i := 4) (by decide +kernel))))) (by decide +kernel)
  · exact yT_in (List.mem_append_right _ (List.mem_append_right _ (List.mem_append_left _ (List.mem_of_getElem? (i := 6) (by decide +kernel))))) (by decide +kernel)
  · exact yT_in (List.mem_append_right _ (List.mem_append_right _ (List.mem_append_left _ (List.mem_of_getElem? (i := 8) (by decide +kernel))))) (by decide +kernel)
  · exact yT_in (List.mem_append_right _ (List.mem_append_right _ (List.mem_append_left _ (List.mem_of_getElem? (i := 10) (by decide +kernel))))) (by decide +kernel)
  · exact yT_in (List.mem_append_right _ (List.mem_append_right _ (List.mem_append_left _ (List.mem_of_getElem? (i := 12) (by decide +kernel))))) (by decide +kernel)
  · exact yT_in (List.mem_append_right _ (List.mem_append_right _ (List.mem_append_left _ (List.mem_of_getElem? (i := 14) (by decide +kernel))))) (by decide +kernel)
  · exact yT_in (List.mem_append_right _ (List.mem_append_right _ (List.mem_append_left _ (List.mem_of_getElem? (i := 16) (by decide +kernel))))) (by decide +kernel)
def F_Spend : u_T := fun k => match k with
  | 0 => ("NotePool$Spend", "secret", "I", false)
  | 1 => ("NotePool$Spend", "address", "I", false)
  | 2 => ("NotePool$Spend", "leaf", "I", false)
  | 3 => ("NotePool$Spend", "value", "I", false)
  | 4 => ("NotePool$Spend", "trapdoor", "I", false)
  | 5 => ("NotePool$Spend", "coverScalar", "I", false)
  | 6 => ("NotePool$Spend", "path", "[I", true)
  | 7 => ("NotePool$Spend", "anchor", "I", false)
  | 8 => ("NotePool$Spend", "nullifier", "I", false)
  | _ => ("NotePool$Spend", "cover", "I", false)
def t_Spend : Nat → FieldType := fun k => match k with
  | 0 => .int
  | 1 => .int
  | 2 => .int
  | 3 => .int
  | 4 => .int
  | 5 => .int
  | 6 => (.array .int)
  | 7 => .int
  | 8 => .int
  | _ => .int
theorem nm_Spend : ∀ a, a < 10 → ∀ b, b < 10 → a ≠ b → (F_Spend a).2.1 ≠ (F_Spend b).2.1 := by decide +kernel
theorem tk_Spend : ∀ k, k < 10 → parseFieldDescriptor (F_Spend k).2.2.1 = some (t_Spend k) := by decide +kernel
theorem in_Spend : ∀ w ∈ u_ws R_Spend F_Spend 10, w ∈ yT := by
  intro w h
  obtain ⟨k, hk, rfl⟩ := List.mem_map.mp h
  have hk := List.mem_range.mp hk
  rcases (by omega : k = 0 ∨ k = 1 ∨ k = 2 ∨ k = 3 ∨ k = 4 ∨ k = 5 ∨ k = 6 ∨ k = 7 ∨ k = 8 ∨ k = 9) with rfl | rfl | rfl | rfl | rfl | rfl | rfl | rfl | rfl | rfl
  · exact yT_in (List.mem_append_right _ (List.mem_append_left _ (List.mem_of_getElem? (i := 199) (by decide +kernel)))) (by decide +kernel)
  · exact yT_in (List.mem_append_right _ (List.mem_append_left _ (List.mem_of_getElem? (i := 201) (by decide +kernel)))) (by decide +kernel)
  · exact yT_in (List.mem_append_right _ (List.mem_append_left _ (List.mem_of_getElem? (i := 203) (by decide +kernel)))) (by decide +kernel)
  · exact yT_in (List.mem_append_right _ (List.mem_append_left _ (List.mem_of_getElem? (i := 205) (by decide +kernel)))) (by decide +kernel)
  · exact yT_in (List.mem_append_right _ (List.mem_append_left _ (List.mem_of_getElem? (i := 207) (by decide +kernel)))) (by decide +kernel)
  · exact yT_in (List.mem_append_right _ (List.mem_append_left _ (List.mem_of_getElem? (i := 209) (by decide +kernel)))) (by decide +kernel)
  · exact yT_in (List.mem_append_right _ (List.mem_append_left _ (List.mem_of_getElem? (i := 211) (by decide +kernel)))) (by decide +kernel)
  · exact yT_in (List.mem_append_right _ (List.mem_append_left _ (List.mem_of_getElem? (i := 213) (by decide +kernel)))) (by decide +kernel)
  · exact yT_in (List.mem_append_right _ (List.mem_append_left _ (List.mem_of_getElem? (i := 215) (by decide +kernel)))) (by decide +kernel)
  · exact yT_in (List.mem_append_right _ (List.mem_append_left _ (List.mem_of_getElem? (i := 217) (by decide +kernel)))) (by decide +kernel)
def F_Tree : u_T := fun k => match k with
  | 0 => ("NotePool$Tree", "bases", "LNotePool$Bases;", true)
  | 1 => ("NotePool$Tree", "nodes", "[I", true)
  | 2 => ("NotePool$Tree", "sealedValues", "[I", true)
  | 3 => ("NotePool$Tree", "sealedTrapdoors", "[I", true)
  | 4 => ("NotePool$Tree", "sealPoints", "[I", true)
  | _ => ("NotePool$Tree", "filled", "I", false)
def t_Tree : Nat → FieldType := fun k => match k with
  | 0 => (.object "NotePool$Bases")
  | 1 => (.array .int)
  | 2 => (.array .int)
  | 3 => (.array .int)
  | 4 => (.array .int)
  | _ => .int
theorem nm_Tree : ∀ a, a < 6 → ∀ b, b < 6 → a ≠ b → (F_Tree a).2.1 ≠ (F_Tree b).2.1 := by decide +kernel
theorem tk_Tree : ∀ k, k < 6 → parseFieldDescriptor (F_Tree k).2.2.1 = some (t_Tree k) := by decide +kernel
theorem in_Tree : ∀ w ∈ u_ws R_Tree F_Tree 6, w ∈ yT := by
  intro w h
  obtain ⟨k, hk, rfl⟩ := List.mem_map.mp h
  have hk := List.mem_range.mp hk
  rcases (by omega : k = 0 ∨ k = 1 ∨ k = 2 ∨ k = 3 ∨ k = 4 ∨ k = 5) with rfl | rfl | rfl | rfl | rfl | rfl
  · exact yT_in (List.mem_append_right _ (List.mem_append_left _ (List.mem_of_getElem? (i := 105) (by decide +kernel)))) (by decide +kernel)
  · exact yT_in (List.mem_append_right _ (List.mem_append_left _ (List.mem_of_getElem? (i := 107) (by decide +kernel)))) (by decide +kernel)
  · exact yT_in (List.mem_append_right _ (List.mem_append_left _ (List.mem_of_getElem? (i := 109) (by decide +kernel)))) (by decide +kernel)
  · exact yT_in (List.mem_append_right _ (List.mem_append_left _ (List.mem_of_getElem? (i := 111) (by decide +kernel)))) (by decide +kernel)
  · exact yT_in (List.mem_append_right _ (List.mem_append_left _ (List.mem_of_getElem? (i := 113) (by decide +kernel)))) (by decide +kernel)
  · exact yT_in (List.mem_append_right _ (List.mem_append_left _ (List.mem_of_getElem? (i := 115) (by decide +kernel)))) (by decide +kernel)
def F_M : u_T := fun k => match k with
  | 0 => ("NotePoolModel", "px", "[I", false)
  | 1 => ("NotePoolModel", "py", "[I", false)
  | 2 => ("NotePoolModel", "keys", "I", false)
  | 3 => ("NotePoolModel", "secret", "[I", false)
  | 4 => ("NotePoolModel", "spends", "I", false)
  | 5 => ("NotePoolModel", "spendKey", "[I", false)
  | 6 => ("NotePoolModel", "spendLeaf", "[I", false)
  | 7 => ("NotePoolModel", "spendValue", "[I", false)
  | 8 => ("NotePoolModel", "spendTrap", "[I", false)
  | 9 => ("NotePoolModel", "spendBlind", "[I", false)
  | 10 => ("NotePoolModel", "spendAnchor", "[I", false)
  | 11 => ("NotePoolModel", "spendNull", "[I", false)
  | 12 => ("NotePoolModel", "path", "[I", false)
  | 13 => ("NotePoolModel", "outputs", "I", false)
  | 14 => ("NotePoolModel", "outKey", "[I", false)
  | 15 => ("NotePoolModel", "outValue", "[I", false)
  | 16 => ("NotePoolModel", "outTrap", "[I", false)
  | 17 => ("NotePoolModel", "outBlind", "[I", false)
  | 18 => ("NotePoolModel", "outCommit", "[I", false)
  | 19 => ("NotePoolModel", "outOpen", "[I", false)
  | 20 => ("NotePoolModel", "outFirst", "[I", false)
  | 21 => ("NotePoolModel", "outSecond", "[I", false)
  | 22 => ("NotePoolModel", "balance", "I", false)
  | 23 => ("NotePoolModel", "turn", "I", false)
  | 24 => ("NotePoolModel", "blocks", "I", false)
  | 25 => ("NotePoolModel", "upTo", "[I", false)
  | 26 => ("NotePoolModel", "left", "[I", false)
  | 27 => ("NotePoolModel", "shown", "[I", false)
  | 28 => ("NotePoolModel", "leaf", "[I", false)
  | 29 => ("NotePoolModel", "open", "[I", false)
  | 30 => ("NotePoolModel", "first", "[I", false)
  | 31 => ("NotePoolModel", "second", "[I", false)
  | _ => ("NotePoolModel", "row", "[I", false)
def t_M : Nat → FieldType := fun k => match k with
  | 0 => (.array .int)
  | 1 => (.array .int)
  | 2 => .int
  | 3 => (.array .int)
  | 4 => .int
  | 5 => (.array .int)
  | 6 => (.array .int)
  | 7 => (.array .int)
  | 8 => (.array .int)
  | 9 => (.array .int)
  | 10 => (.array .int)
  | 11 => (.array .int)
  | 12 => (.array .int)
  | 13 => .int
  | 14 => (.array .int)
  | 15 => (.array .int)
  | 16 => (.array .int)
  | 17 => (.array .int)
  | 18 => (.array .int)
  | 19 => (.array .int)
  | 20 => (.array .int)
  | 21 => (.array .int)
  | 22 => .int
  | 23 => .int
  | 24 => .int
  | 25 => (.array .int)
  | 26 => (.array .int)
  | 27 => (.array .int)
  | 28 => (.array .int)
  | 29 => (.array .int)
  | 30 => (.array .int)
  | 31 => (.array .int)
  | _ => (.array .int)
theorem nm_M : ∀ a, a < 33 → ∀ b, b < 33 → a ≠ b → (F_M a).2.1 ≠ (F_M b).2.1 := by decide +kernel
theorem tk_M : ∀ k, k < 33 → parseFieldDescriptor (F_M k).2.2.1 = some (t_M k) := by decide +kernel
theorem in_M : ∀ w ∈ u_ws R_M F_M 33, w ∈ yT := by
  intro w h
  obtain ⟨k, hk, rfl⟩ := List.mem_map.mp h
  have hk := List.mem_range.mp hk
  rcases (by omega : k = 0 ∨ k = 1 ∨ k = 2 ∨ k = 3 ∨ k = 4 ∨ k = 5 ∨ k = 6 ∨ k = 7 ∨ k = 8 ∨ k = 9 ∨ k = 10 ∨ k = 11 ∨ k = 12 ∨ k = 13 ∨ k = 14 ∨ k = 15 ∨ k = 16 ∨ k = 17 ∨ k = 18 ∨ k = 19 ∨ k = 20 ∨ k = 21 ∨ k = 22 ∨ k = 23 ∨ k = 24 ∨ k = 25 ∨ k = 26 ∨ k = 27 ∨ k = 28 ∨ k = 29 ∨ k = 30 ∨ k = 31 ∨ k = 32) with rfl | rfl | rfl | rfl | rfl | rfl | rfl | rfl | rfl | rfl | rfl | rfl | rfl | rfl | rfl | rfl | rfl | rfl | rfl | rfl | rfl | rfl | rfl | rfl | rfl | rfl | rfl | rfl | rfl | rfl | rfl | rfl | rfl
  · exact yT_in (List.mem_append_right _ (List.mem_append_right _ (List.mem_append_right _ (List.mem_append_left _ (List.mem_of_getElem? (i := 159) (by decide +kernel)))))) (by decide +kernel)
  · exact yT_in (List.mem_append_right _ (List.mem_append_right _ (List.mem_append_right _ (List.mem_append_left _ (List.mem_of_getElem? (i := 161) (by decide +kernel)))))) (by decide +kernel)
  · exact yT_in (List.mem_append_right _ (List.mem_append_right _ (List.mem_append_right _ (List.mem_append_left _ (List.mem_of_getElem? (i := 163) (by decide +kernel)))))) (by decide +kernel)
  · exact yT_in (List.mem_append_right _ (List.mem_append_right _ (List.mem_append_right _ (List.mem_append_left _ (List.mem_of_getElem? (i := 165) (by decide +kernel)))))) (by decide +kernel)
  · exact yT_in (List.mem_append_right _ (List.mem_append_right _ (List.mem_append_right _ (List.mem_append_left _ (List.mem_of_getElem? (i := 167) (by decide +kernel)))))) (by decide +kernel)
  · exact yT_in (List.mem_append_right _ (List.mem_append_right _ (List.mem_append_right _ (List.mem_append_left _ (List.mem_of_getElem? (i := 169) (by decide +kernel)))))) (by decide +kernel)
  · exact yT_in (List.mem_append_right _ (List.mem_append_right _ (List.mem_append_right _ (List.mem_append_left _ (List.mem_of_getElem? (i := 171) (by decide +kernel)))))) (by decide +kernel)
  · exact yT_in (List.mem_append_right _ (List.mem_append_right _ (List.mem_append_right _ (List.mem_append_left _ (List.mem_of_getElem? (i := 173) (by decide +kernel)))))) (by decide +kernel)
  · exact yT_in (List.mem_append_right _ (List.mem_append_right _ (List.mem_append_right _ (List.mem_append_left _ (List.mem_of_getElem? (i := 175) (by decide +kernel)))))) (by decide +kernel)
  · exact yT_in (List.mem_append_right _ (List.mem_append_right _ (List.mem_append_right _ (List.mem_append_left _ (List.mem_of_getElem? (i := 177) (by decide +kernel)))))) (by decide +kernel)
  · exact yT_in (List.mem_append_right _ (List.mem_append_right _ (List.mem_append_right _ (List.mem_append_left _ (List.mem_of_getElem? (i := 179) (by decide +kernel)))))) (by decide +kernel)
  · exact yT_in (List.mem_append_right _ (List.mem_append_right _ (List.mem_append_right _ (List.mem_append_left _ (List.mem_of_getElem? (i := 181) (by decide +kernel)))))) (by decide +kernel)
  · exact yT_in (List.mem_append_right _ (List.mem_append_right _ (List.mem_append_right _ (List.mem_append_left _ (List.mem_of_getElem? (i := 183) (by decide +kernel)))))) (by decide +kernel)
  · exact yT_in (List.mem_append_right _ (List.mem_append_right _ (List.mem_append_right _ (List.mem_append_left _ (List.mem_of_getElem? (i := 185) (by decide +kernel)))))) (by decide +kernel)
  · exact yT_in (List.mem_append_right _ (List.mem_append_right _ (List.mem_append_right _ (List.mem_append_left _ (List.mem_of_getElem? (i := 187) (by decide +kernel)))))) (by decide +kernel)
  · exact yT_in (List.mem_append_right _ (List.mem_append_right _ (List.mem_append_right _ (List.mem_append_left _ (List.mem_of_getElem? (i := 189) (by decide +kernel)))))) (by decide +kernel)
  · exact yT_in (List.mem_append_right _ (List.mem_append_right _ (List.mem_append_right _ (List.mem_append_left _ (List.mem_of_getElem? (i := 191) (by decide +kernel)))))) (by decide +kernel)
  · exact yT_in (List.mem_append_right _ (List.mem_append_right _ (List.mem_append_right _ (List.mem_append_left _ (List.mem_of_getElem? (i := 193) (by decide +kernel)))))) (by decide +kernel)
  · exact yT_in (List.mem_append_right _ (List.mem_append_right _ (List.mem_append_right _ (List.mem_append_left _ (List.mem_of_getElem? (i := 195) (by decide +kernel)))))) (by decide +kernel)
  · exact yT_in (List.mem_append_right _ (List.mem_append_right _ (List.mem_append_right _ (List.mem_append_left _ (List.mem_of_getElem? (i := 197) (by decide +kernel)))))) (by decide +kernel)
  · exact yT_in (List.mem_append_right _ (List.mem_append_right _ (List.mem_append_right _ (List.mem_append_left _ (List.mem_of_getElem? (i := 199) (by decide +kernel)))))) (by decide +kernel)
  · exact yT_in (List.mem_append_right _ (List.mem_append_right _ (List.mem_append_right _ (List.mem_append_left _ (List.mem_of_getElem? (i := 201) (by decide +kernel)))))) (by decide +kernel)
  · exact yT_in (List.mem_append_right _ (List.mem_append_right _ (List.mem_append_right _ (List.mem_append_left _ (List.mem_of_getElem? (i := 203) (by decide +kernel)))))) (by decide +kernel)
  · exact yT_in (List.mem_append_right _ (List.mem_append_right _ (List.mem_append_right _ (List.mem_append_left _ (List.mem_of_getElem? (i := 205) (by decide +kernel)))))) (by decide +kernel)
  · exact yT_in (List.mem_append_right _ (List.mem_append_right _ (List.mem_append_right _ (List.mem_append_left _ (List.mem_of_getElem? (i := 207) (by decide +kernel)))))) (by decide +kernel)
  · exact yT_in (List.mem_append_right _ (List.mem_append_right _ (List.mem_append_right _ (List.mem_append_left _ (List.mem_of_getElem? (i := 209) (by decide +kernel)))))) (by decide +kernel)
  · exact yT_in (List.mem_append_right _ (List.mem_append_right _ (List.mem_append_right _ (List.mem_append_left _ (List.mem_of_getElem? (i := 211) (by decide +kernel)))))) (by decide +kernel)
  · exact yT_in (List.mem_append_right _ (List.mem_append_right _ (List.mem_append_right _ (List.mem_append_left _ (List.mem_of_getElem? (i := 213) (by decide +kernel)))))) (by decide +kernel)
  · exact yT_in (List.mem_append_right _ (List.mem_append_right _ (List.mem_append_right _ (List.mem_append_left _ (List.mem_of_getElem? (i := 215) (by decide +kernel)))))) (by decide +kernel)
  · exact yT_in (List.mem_append_right _ (List.mem_append_right _ (List.mem_append_right _ (List.mem_append_left _ (List.mem_of_getElem? (i := 217) (by decide +kernel)))))) (by decide +kernel)
  · exact yT_in (List.mem_append_right _ (List.mem_append_right _ (List.mem_append_right _ (List.mem_append_left _ (List.mem_of_getElem? (i := 219) (by decide +kernel)))))) (by decide +kernel)
  · exact yT_in (List.mem_append_right _ (List.mem_append_right _ (List.mem_append_right _ (List.mem_append_left _ (List.mem_of_getElem? (i := 221) (by decide +kernel)))))) (by decide +kernel)
  · exact yT_in (List.mem_append_right _ (List.mem_append_right _ (List.mem_append_right _ (List.mem_append_left _ (List.mem_of_getElem? (i := 223) (by decide +kernel)))))) (by decide +kernel)
abbrev ycl : List vw_C := [(R_P, F_P, 6), (R_Base, F_Base, 1), (R_Bases, F_Bases, 5), (R_Block, F_Block, 5), (R_Chain, F_Chain, 4), (R_Draft, F_Draft, 6), (R_Key, F_Key, 6), (R_Output, F_Output, 9), (R_Spend, F_Spend, 10), (R_Tree, F_Tree, 6), (R_M, F_M, 33)]
abbrev yty (a : Nat → ClassId) : List (ClassId × FieldType) := [(a 0, .int), (a 1, .boolean), (a 2, .object R_Key), (a 3, .object R_Spend), (a 4, .object R_Output), (a 5, .object R_Block)]
abbrev b_P_init : ByteArray := prog_1_method_1_code
def y_P_init : MethodName := ⟨R_P, "<init>", "()V"⟩
abbrev b_P_address : ByteArray := prog_1_method_17_code
def y_P_address : MethodName := ⟨R_P, "address", "(II)I"⟩
abbrev b_P_alter : ByteArray := prog_1_method_7_code
def y_P_alter : MethodName := ⟨R_P, "alter", "(II)Z"⟩
abbrev b_P_balance : ByteArray := prog_1_method_6_code
def y_P_balance : MethodName := ⟨R_P, "balance", "(I)Z"⟩
abbrev b_P_blocks : ByteArray := prog_1_method_10_code
def y_P_blocks : MethodName := ⟨R_P, "blocks", "()I"⟩
abbrev b_P_clear : ByteArray := prog_1_method_3_code
def y_P_clear : MethodName := ⟨R_P, "clear", "()V"⟩
abbrev b_P_connect : ByteArray := prog_1_method_8_code
def y_P_connect : MethodName := ⟨R_P, "connect", "()I"⟩
abbrev b_P_disconnect : ByteArray := prog_1_method_9_code
def y_P_disconnect : MethodName := ⟨R_P, "disconnect", "()I"⟩
abbrev b_P_draft : ByteArray := prog_1_method_18_code
def y_P_draft : MethodName := ⟨R_P, "draft", "(I)I"⟩
abbrev b_P_finds : ByteArray := prog_1_method_20_code
def y_P_finds : MethodName := ⟨R_P, "finds", "(II)Z"⟩
abbrev b_P_isFieldNumber : ByteArray := prog_1_method_25_code
def y_P_isFieldNumber : MethodName := ⟨R_P, "isFieldNumber", "(I)Z"⟩
abbrev b_P_isKey : ByteArray := prog_1_method_19_code
def y_P_isKey : MethodName := ⟨R_P, "isKey", "(I)Z"⟩
abbrev b_P_isScalar : ByteArray := prog_1_method_26_code
def y_P_isScalar : MethodName := ⟨R_P, "isScalar", "(I)Z"⟩
abbrev b_P_isValue : ByteArray := prog_1_method_27_code
def y_P_isValue : MethodName := ⟨R_P, "isValue", "(I)Z"⟩
abbrev b_P_judgeOutputs : ByteArray := prog_1_method_23_code
def y_P_judgeOutputs : MethodName := ⟨R_P, "judgeOutputs", "()I"⟩
abbrev b_P_judgeSpends : ByteArray := prog_1_method_22_code
def y_P_judgeSpends : MethodName := ⟨R_P, "judgeSpends", "()I"⟩
abbrev b_P_judgeWhole : ByteArray := prog_1_method_24_code
def y_P_judgeWhole : MethodName := ⟨R_P, "judgeWhole", "()I"⟩
abbrev b_P_key : ByteArray := prog_1_method_2_code
def y_P_key : MethodName := ⟨R_P, "key", "(I)I"⟩
abbrev b_P_leaves : ByteArray := prog_1_method_11_code
def y_P_leaves : MethodName := ⟨R_P, "leaves", "()I"⟩
abbrev b_P_lookAtLatestLeaf : ByteArray := prog_1_method_21_code
def y_P_lookAtLatestLeaf : MethodName := ⟨R_P, "lookAtLatestLeaf", "()V"⟩
abbrev b_P_node : ByteArray := prog_1_method_12_code
def y_P_node : MethodName := ⟨R_P, "node", "(II)I"⟩
abbrev b_P_note : ByteArray := prog_1_method_15_code
def y_P_note : MethodName := ⟨R_P, "note", "(III)I"⟩
abbrev b_P_output : ByteArray := prog_1_method_5_code
def y_P_output : MethodName := ⟨R_P, "output", "(IIIII)Z"⟩
abbrev b_P_pool : ByteArray := prog_1_method_13_code
def y_P_pool : MethodName := ⟨R_P, "pool", "()I"⟩
abbrev b_P_revealed : ByteArray := prog_1_method_14_code
def y_P_revealed : MethodName := ⟨R_P, "revealed", "(I)Z"⟩
abbrev b_P_spend : ByteArray := prog_1_method_4_code
def y_P_spend : MethodName := ⟨R_P, "spend", "(III)Z"⟩
abbrev b_P_total : ByteArray := prog_1_method_16_code
def y_P_total : MethodName := ⟨R_P, "total", "(I)I"⟩
abbrev b_Base_init : ByteArray := prog_2_method_1_code
def y_Base_init : MethodName := ⟨R_Base, "<init>", "(II)V"⟩
abbrev b_Base_times : ByteArray := prog_2_method_2_code
def y_Base_times : MethodName := ⟨R_Base, "times", "(I)I"⟩
abbrev b_Bases_init : ByteArray := prog_3_method_1_code
def y_Bases_init : MethodName := ⟨R_Bases, "<init>", "()V"⟩
abbrev b_Bases_commitment : ByteArray := prog_3_method_3_code
def y_Bases_commitment : MethodName := ⟨R_Bases, "commitment", "(III)I"⟩
abbrev b_Bases_cover : ByteArray := prog_3_method_2_code
def y_Bases_cover : MethodName := ⟨R_Bases, "cover", "(II)I"⟩
abbrev b_Bases_hash : ByteArray := prog_3_method_4_code
def y_Bases_hash : MethodName := ⟨R_Bases, "hash", "(III)I"⟩
abbrev b_Bases_nullifier : ByteArray := prog_3_method_5_code
def y_Bases_nullifier : MethodName := ⟨R_Bases, "nullifier", "(II)I"⟩
abbrev b_Block_init : ByteArray := prog_4_method_1_code
def y_Block_init : MethodName := ⟨R_Block, "<init>", "()V"⟩
abbrev b_Chain_init : ByteArray := prog_5_method_1_code
def y_Chain_init : MethodName := ⟨R_Chain, "<init>", "(I)V"⟩
abbrev b_Chain_append : ByteArray := prog_5_method_4_code
def y_Chain_append : MethodName := ⟨R_Chain, "append", "(LNotePool$Draft;I)V"⟩
abbrev b_Chain_hasRoot : ByteArray := prog_5_method_2_code
def y_Chain_hasRoot : MethodName := ⟨R_Chain, "hasRoot", "(I)Z"⟩
abbrev b_Chain_removeLatest : ByteArray := prog_5_method_5_code
def y_Chain_removeLatest : MethodName := ⟨R_Chain, "removeLatest", "()I"⟩
abbrev b_Chain_reveals : ByteArray := prog_5_method_3_code
def y_Chain_reveals : MethodName := ⟨R_Chain, "reveals", "(I)Z"⟩
abbrev b_Curve_coordinate : ByteArray := prog_6_method_3_code
def y_Curve_coordinate : MethodName := ⟨R_Curve, "coordinate", "(II)I"⟩
abbrev b_Curve_inverse : ByteArray := prog_6_method_7_code
def y_Curve_inverse : MethodName := ⟨R_Curve, "inverse", "(I)I"⟩
abbrev b_Curve_multiple : ByteArray := prog_6_method_6_code
def y_Curve_multiple : MethodName := ⟨R_Curve, "multiple", "(II)I"⟩
abbrev b_Curve_negative : ByteArray := prog_6_method_4_code
def y_Curve_negative : MethodName := ⟨R_Curve, "negative", "(I)I"⟩
abbrev b_Curve_point : ByteArray := prog_6_method_2_code
def y_Curve_point : MethodName := ⟨R_Curve, "point", "(II)I"⟩
abbrev b_Curve_sum : ByteArray := prog_6_method_5_code
def y_Curve_sum : MethodName := ⟨R_Curve, "sum", "(II)I"⟩
abbrev b_Draft_init : ByteArray := prog_7_method_1_code
def y_Draft_init : MethodName := ⟨R_Draft, "<init>", "()V"⟩
abbrev b_Draft_coverOfSpend : ByteArray := prog_7_method_7_code
def y_Draft_coverOfSpend : MethodName := ⟨R_Draft, "coverOfSpend", "(II)I"⟩
abbrev b_Draft_empty : ByteArray := prog_7_method_2_code
def y_Draft_empty : MethodName := ⟨R_Draft, "empty", "()V"⟩
abbrev b_Draft_excess : ByteArray := prog_7_method_4_code
def y_Draft_excess : MethodName := ⟨R_Draft, "excess", "(LNotePool$Bases;)I"⟩
abbrev b_Draft_figure : ByteArray := prog_7_method_6_code
def y_Draft_figure : MethodName := ⟨R_Draft, "figure", "(I)I"⟩
abbrev b_Draft_markOfSpend : ByteArray := prog_7_method_9_code
def y_Draft_markOfSpend : MethodName := ⟨R_Draft, "markOfSpend", "(II)I"⟩
abbrev b_Draft_partOfOutput : ByteArray := prog_7_method_8_code
def y_Draft_partOfOutput : MethodName := ⟨R_Draft, "partOfOutput", "(II)I"⟩
abbrev b_Draft_repeatsNullifier : ByteArray := prog_7_method_5_code
def y_Draft_repeatsNullifier : MethodName := ⟨R_Draft, "repeatsNullifier", "(I)Z"⟩
abbrev b_Draft_sealScalar : ByteArray := prog_7_method_3_code
def y_Draft_sealScalar : MethodName := ⟨R_Draft, "sealScalar", "()I"⟩
abbrev b_Key_init : ByteArray := prog_8_method_1_code
def y_Key_init : MethodName := ⟨R_Key, "<init>", "()V"⟩
abbrev b_Key_begin : ByteArray := prog_8_method_2_code
def y_Key_begin : MethodName := ⟨R_Key, "begin", "(LNotePool$Bases;I)V"⟩
abbrev b_Key_look : ByteArray := prog_8_method_3_code
def y_Key_look : MethodName := ⟨R_Key, "look", "(LNotePool$Bases;LNotePool$Tree;I)V"⟩
abbrev b_Output_init : ByteArray := prog_9_method_1_code
def y_Output_init : MethodName := ⟨R_Output, "<init>", "()V"⟩
abbrev b_Output_change : ByteArray := prog_9_method_4_code
def y_Output_change : MethodName := ⟨R_Output, "change", "(II)Z"⟩
abbrev b_Output_fill : ByteArray := prog_9_method_2_code
def y_Output_fill : MethodName := ⟨R_Output, "fill", "(LNotePool$Bases;III)V"⟩
abbrev b_Output_isProven : ByteArray := prog_9_method_5_code
def y_Output_isProven : MethodName := ⟨R_Output, "isProven", "(LNotePool$Bases;)Z"⟩
abbrev b_Output_part : ByteArray := prog_9_method_6_code
def y_Output_part : MethodName := ⟨R_Output, "part", "(I)I"⟩
abbrev b_Output_seal : ByteArray := prog_9_method_3_code
def y_Output_seal : MethodName := ⟨R_Output, "seal", "(LNotePool$Bases;II)V"⟩
abbrev b_Spend_init : ByteArray := prog_10_method_1_code
def y_Spend_init : MethodName := ⟨R_Spend, "<init>", "()V"⟩
abbrev b_Spend_change : ByteArray := prog_10_method_3_code
def y_Spend_change : MethodName := ⟨R_Spend, "change", "(LNotePool$Bases;II)Z"⟩
abbrev b_Spend_fill : ByteArray := prog_10_method_2_code
def y_Spend_fill : MethodName := ⟨R_Spend, "fill", "(LNotePool$Bases;LNotePool$Tree;LNotePool$Key;II)V"⟩
abbrev b_Spend_isProven : ByteArray := prog_10_method_4_code
def y_Spend_isProven : MethodName := ⟨R_Spend, "isProven", "(LNotePool$Bases;)Z"⟩
abbrev b_Tree_init : ByteArray := prog_11_method_1_code
def y_Tree_init : MethodName := ⟨R_Tree, "<init>", "(LNotePool$Bases;)V"⟩
abbrev b_Tree_append : ByteArray := prog_11_method_5_code
def y_Tree_append : MethodName := ⟨R_Tree, "append", "(LNotePool$Output;)V"⟩
abbrev b_Tree_copyPath : ByteArray := prog_11_method_4_code
def y_Tree_copyPath : MethodName := ⟨R_Tree, "copyPath", "(I[I)V"⟩
abbrev b_Tree_place : ByteArray := prog_11_method_2_code
def y_Tree_place : MethodName := ⟨R_Tree, "place", "(II)I"⟩
abbrev b_Tree_removeLatest : ByteArray := prog_11_method_6_code
def y_Tree_removeLatest : MethodName := ⟨R_Tree, "removeLatest", "()V"⟩
abbrev b_Tree_root : ByteArray := prog_11_method_3_code
def y_Tree_root : MethodName := ⟨R_Tree, "root", "()I"⟩
abbrev b_Tree_setLeaf : ByteArray := prog_11_method_7_code
def y_Tree_setLeaf : MethodName := ⟨R_Tree, "setLeaf", "(II)V"⟩
abbrev b_M_init : ByteArray := prog_13_method_1_code
def y_M_init : MethodName := ⟨R_M, "<init>", "()V"⟩
abbrev b_M_address : ByteArray := prog_13_method_17_code
def y_M_address : MethodName := ⟨R_M, "address", "(II)I"⟩
abbrev b_M_alter : ByteArray := prog_13_method_29_code
def y_M_alter : MethodName := ⟨R_M, "alter", "(II)Z"⟩
abbrev b_M_balance : ByteArray := prog_13_method_28_code
def y_M_balance : MethodName := ⟨R_M, "balance", "(I)Z"⟩
abbrev b_M_blocks : ByteArray := prog_13_method_31_code
def y_M_blocks : MethodName := ⟨R_M, "blocks", "()I"⟩
abbrev b_M_clear : ByteArray := prog_13_method_24_code
def y_M_clear : MethodName := ⟨R_M, "clear", "()V"⟩
abbrev b_M_commitment : ByteArray := prog_13_method_8_code
def y_M_commitment : MethodName := ⟨R_M, "commitment", "(III)I"⟩
abbrev b_M_connect : ByteArray := prog_13_method_37_code
def y_M_connect : MethodName := ⟨R_M, "connect", "()I"⟩
abbrev b_M_cover : ByteArray := prog_13_method_10_code
def y_M_cover : MethodName := ⟨R_M, "cover", "(II)I"⟩
abbrev b_M_covers : ByteArray := prog_13_method_35_code
def y_M_covers : MethodName := ⟨R_M, "covers", "()I"⟩
abbrev b_M_disconnect : ByteArray := prog_13_method_38_code
def y_M_disconnect : MethodName := ⟨R_M, "disconnect", "()I"⟩
abbrev b_M_draft : ByteArray := prog_13_method_40_code
def y_M_draft : MethodName := ⟨R_M, "draft", "(I)I"⟩
abbrev b_M_fault : ByteArray := prog_13_method_36_code
def y_M_fault : MethodName := ⟨R_M, "fault", "()I"⟩
abbrev b_M_finds : ByteArray := prog_13_method_21_code
def y_M_finds : MethodName := ⟨R_M, "finds", "(II)Z"⟩
abbrev b_M_hash : ByteArray := prog_13_method_7_code
def y_M_hash : MethodName := ⟨R_M, "hash", "(III)I"⟩
abbrev b_M_in : ByteArray := prog_13_method_6_code
def y_M_in : MethodName := ⟨R_M, "in", "(III)Z"⟩
abbrev b_M_isKey : ByteArray := prog_13_method_15_code
def y_M_isKey : MethodName := ⟨R_M, "isKey", "(I)Z"⟩
abbrev b_M_isRoot : ByteArray := prog_13_method_14_code
def y_M_isRoot : MethodName := ⟨R_M, "isRoot", "(I)Z"⟩
abbrev b_M_isScalar : ByteArray := prog_13_method_25_code
def y_M_isScalar : MethodName := ⟨R_M, "isScalar", "(I)Z"⟩
abbrev b_M_key : ByteArray := prog_13_method_16_code
def y_M_key : MethodName := ⟨R_M, "key", "(I)I"⟩
abbrev b_M_leaves : ByteArray := prog_13_method_11_code
def y_M_leaves : MethodName := ⟨R_M, "leaves", "()I"⟩
abbrev b_M_node : ByteArray := prog_13_method_13_code
def y_M_node : MethodName := ⟨R_M, "node", "(II)I"⟩
abbrev b_M_nodeOf : ByteArray := prog_13_method_12_code
def y_M_nodeOf : MethodName := ⟨R_M, "nodeOf", "(III)I"⟩
abbrev b_M_note : ByteArray := prog_13_method_22_code
def y_M_note : MethodName := ⟨R_M, "note", "(III)I"⟩
abbrev b_M_nullifier : ByteArray := prog_13_method_9_code
def y_M_nullifier : MethodName := ⟨R_M, "nullifier", "(II)I"⟩
abbrev b_M_output : ByteArray := prog_13_method_27_code
def y_M_output : MethodName := ⟨R_M, "output", "(IIIII)Z"⟩
abbrev b_M_outputPart : ByteArray := prog_13_method_39_code
def y_M_outputPart : MethodName := ⟨R_M, "outputPart", "(II)I"⟩
abbrev b_M_pool : ByteArray := prog_13_method_32_code
def y_M_pool : MethodName := ⟨R_M, "pool", "()I"⟩
abbrev b_M_power : ByteArray := prog_13_method_4_code
def y_M_power : MethodName := ⟨R_M, "power", "(II)I"⟩
abbrev b_M_proven : ByteArray := prog_13_method_34_code
def y_M_proven : MethodName := ⟨R_M, "proven", "(I)Z"⟩
abbrev b_M_rest : ByteArray := prog_13_method_5_code
def y_M_rest : MethodName := ⟨R_M, "rest", "(II)I"⟩
abbrev b_M_revealed : ByteArray := prog_13_method_33_code
def y_M_revealed : MethodName := ⟨R_M, "revealed", "(I)Z"⟩
abbrev b_M_seal : ByteArray := prog_13_method_30_code
def y_M_seal : MethodName := ⟨R_M, "seal", "()I"⟩
abbrev b_M_shared : ByteArray := prog_13_method_18_code
def y_M_shared : MethodName := ⟨R_M, "shared", "(II)I"⟩
abbrev b_M_spend : ByteArray := prog_13_method_26_code
def y_M_spend : MethodName := ⟨R_M, "spend", "(III)Z"⟩
abbrev b_M_times : ByteArray := prog_13_method_2_code
def y_M_times : MethodName := ⟨R_M, "times", "(II)I"⟩
abbrev b_M_total : ByteArray := prog_13_method_23_code
def y_M_total : MethodName := ⟨R_M, "total", "(I)I"⟩
abbrev b_M_trapOf : ByteArray := prog_13_method_20_code
def y_M_trapOf : MethodName := ⟨R_M, "trapOf", "(II)I"⟩
abbrev b_M_valueOf : ByteArray := prog_13_method_19_code
def y_M_valueOf : MethodName := ⟨R_M, "valueOf", "(II)I"⟩
abbrev b_M_whole : ByteArray := prog_13_method_3_code
def y_M_whole : MethodName := ⟨R_M, "whole", "(I)I"⟩
abbrev b_Math_floorMod : ByteArray := prog_14_method_50_code
def y_Math_floorMod : MethodName := ⟨R_Math, "floorMod", "(II)I"⟩
theorem k_in_Law : Cond.initialized R_Law ∈ yT := yT_in (List.mem_append_right _ (List.mem_append_left _ (List.mem_of_getElem? (i := 0) (by decide +kernel)))) (by decide +kernel)
theorem k_in_P : Cond.initialized R_P ∈ yT := yT_in (List.mem_append_right _ (List.mem_append_left _ (List.mem_of_getElem? (i := 1) (by decide +kernel)))) (by decide +kernel)
theorem k_in_Bases : Cond.initialized R_Bases ∈ yT := yT_in (List.mem_append_right _ (List.mem_append_left _ (List.mem_of_getElem? (i := 2) (by decide +kernel)))) (by decide +kernel)
theorem k_in_Base : Cond.initialized R_Base ∈ yT := yT_in (List.mem_append_right _ (List.mem_append_left _ (List.mem_of_getElem? (i := 3) (by decide +kernel)))) (by decide +kernel)
theorem k_in_Curve : Cond.initialized R_Curve ∈ yT := yT_in (List.mem_append_right _ (List.mem_append_left _ (List.mem_of_getElem? (i := 4) (by decide +kernel)))) (by decide +kernel)
theorem k_in_Tree : Cond.initialized R_Tree ∈ yT := yT_in (List.mem_append_right _ (List.mem_append_left _ (List.mem_of_getElem? (i := 5) (by decide +kernel)))) (by decide +kernel)
theorem k_in_Math : Cond.initialized R_Math ∈ yT := yT_in (List.mem_append_right _ (List.mem_append_left _ (List.mem_of_getElem? (i := 6) (by decide +kernel)))) (by decide +kernel)
theorem k_in_Chain : Cond.initialized R_Chain ∈ yT := yT_in (List.mem_append_right _ (List.mem_append_left _ (List.mem_of_getElem? (i := 7) (by decide +kernel)))) (by decide +kernel)
theorem k_in_Block : Cond.initialized R_Block ∈ yT := yT_in (List.mem_append_right _ (List.mem_append_left _ (List.mem_of_getElem? (i := 8) (by decide +kernel)))) (by decide +kernel)
theorem k_in_Draft : Cond.initialized R_Draft ∈ yT := yT_in (List.mem_append_right _ (List.mem_append_left _ (List.mem_of_getElem? (i := 9) (by decide +kernel)))) (by decide +kernel)
theorem k_in_Spend : Cond.initialized R_Spend ∈ yT := yT_in (List.mem_append_right _ (List.mem_append_left _ (List.mem_of_getElem? (i := 10) (by decide +kernel)))) (by decide +kernel)
theorem k_in_Output : Cond.initialized R_Output ∈ yT := yT_in (List.mem_append_right _ (List.mem_append_left _ (List.mem_of_getElem? (i := 11) (by decide +kernel)))) (by decide +kernel)
theorem k_in_Key : Cond.initialized R_Key ∈ yT := yT_in (List.mem_append_right _ (List.mem_append_left _ (List.mem_of_getElem? (i := 12) (by decide +kernel)))) (by decide +kernel)
theorem k_in_M : Cond.initialized R_M ∈ yT := yT_in (List.mem_append_right _ (List.mem_append_left _ (List.mem_of_getElem? (i := 13) (by decide +kernel)))) (by decide +kernel)
theorem k_cl_Law_7 : Cond.classLink R_Law 7 R_P ∈ yT := yT_in (List.mem_append_right _ (List.mem_append_left _ (List.mem_of_getElem? (i := 14) (by decide +kernel)))) (by decide +kernel)
theorem k_it_P : Cond.instantiable R_P 6 ∈ yT := yT_in (List.mem_append_right _ (List.mem_append_left _ (List.mem_of_getElem? (i := 15) (by decide +kernel)))) (by decide +kernel)
theorem k_ml_Law_9 : Cond.methodLink R_Law 9 y_P_init ∈ yT := yT_in (List.mem_append_right _ (List.mem_append_left _ (List.mem_of_getElem? (i := 16) (by decide +kernel)))) (by decide +kernel)
theorem k_im_P_init : Cond.instanceMethod y_P_init ∈ yT := yT_in (List.mem_append_right _ (List.mem_append_left _ (List.mem_of_getElem? (i := 17) (by decide +kernel)))) (by decide +kernel)
theorem k_co_P_init : Cond.code y_P_init b_P_init 2 (Option.none : Option Jvm.ClassFile.FieldType) ∈ yT := yT_in (List.mem_append_right _ (List.mem_append_left _ (List.mem_of_getElem? (i := 18) (by decide +kernel)))) (by decide +kernel)
theorem k_cl_P_7 : Cond.classLink R_P 7 R_Bases ∈ yT := yT_in (List.mem_append_right _ (List.mem_append_left _ (List.mem_of_getElem? (i := 22) (by decide +kernel)))) (by decide +kernel)
theorem k_it_Bases : Cond.instantiable R_Bases 5 ∈ yT := yT_in (List.mem_append_right _ (List.mem_append_left _ (List.mem_of_getElem? (i := 23) (by decide +kernel)))) (by decide +kernel)
theorem k_im_Bases_init : Cond.instanceMethod y_Bases_init ∈ yT := yT_in (List.mem_append_right _ (List.mem_append_left _ (List.mem_of_getElem? (i := 25) (by decide +kernel)))) (by decide +kernel)
theorem k_co_Bases_init : Cond.code y_Bases_init b_Bases_init 1 (Option.none : Option Jvm.ClassFile.FieldType) ∈ yT := yT_in (List.mem_append_right _ (List.mem_append_left _ (List.mem_of_getElem? (i := 26) (by decide +kernel)))) (by decide +kernel)
theorem k_cl_Bases_7 : Cond.classLink R_Bases 7 R_Base ∈ yT := yT_in (List.mem_append_right _ (List.mem_append_left _ (List.mem_of_getElem? (i := 28) (by decide +kernel)))) (by decide +kernel)
theorem k_it_Base : Cond.instantiable R_Base 1 ∈ yT := yT_in (List.mem_append_right _ (List.mem_append_left _ (List.mem_of_getElem? (i := 29) (by decide +kernel)))) (by decide +kernel)
theorem k_ml_Bases_9 : Cond.methodLink R_Bases 9 y_Base_init ∈ yT := yT_in (List.mem_append_right _ (List.mem_append_left _ (List.mem_of_getElem? (i := 30) (by decide +kernel)))) (by decide +kernel)
theorem k_im_Base_init : Cond.instanceMethod y_Base_init ∈ yT := yT_in (List.mem_append_right _ (List.mem_append_left _ (List.mem_of_getElem? (i := 31) (by decide +kernel)))) (by decide +kernel)
theorem k_co_Base_init : Cond.code y_Base_init b_Base_init 5 (Option.none : Option Jvm.ClassFile.FieldType) ∈ yT := yT_in (List.mem_append_right _ (List.mem_append_left _ (List.mem_of_getElem? (i := 32) (by decide +kernel)))) (by decide +kernel)
theorem k_ml_Base_15 : Cond.methodLink R_Base 15 y_Curve_point ∈ yT := yT_in (List.mem_append_right _ (List.mem_append_left _ (List.mem_of_getElem? (i := 34) (by decide +kernel)))) (by decide +kernel)
theorem k_st_Curve_point : Cond.static y_Curve_point ∈ yT := yT_in (List.mem_append_right _ (List.mem_append_left _ (List.mem_of_getElem? (i := 35) (by decide +kernel)))) (by decide +kernel)
theorem k_co_Curve_point : Cond.code y_Curve_point b_Curve_point 2 (some .int) ∈ yT := yT_in (List.mem_append_right _ (List.mem_append_left _ (List.mem_of_getElem? (i := 36) (by decide +kernel)))) (by decide +kernel)
theorem k_ml_Base_21 : Cond.methodLink R_Base 21 y_Curve_sum ∈ yT := yT_in (List.mem_append_right _ (List.mem_append_left _ (List.mem_of_getElem? (i := 37) (by decide +kernel)))) (by decide +kernel)
theorem k_st_Curve_sum : Cond.static y_Curve_sum ∈ yT := yT_in (List.mem_append_right _ (List.mem_append_left _ (List.mem_of_getElem? (i := 38) (by decide +kernel)))) (by decide +kernel)
theorem k_co_Curve_sum : Cond.code y_Curve_sum b_Curve_sum 12 (some .int) ∈ yT := yT_in (List.mem_append_right _ (List.mem_append_left _ (List.mem_of_getElem? (i := 39) (by decide +kernel)))) (by decide +kernel)
theorem k_ml_Curve_15 : Cond.methodLink R_Curve 15 y_Curve_inverse ∈ yT := yT_in (List.mem_append_right _ (List.mem_append_left _ (List.mem_of_getElem? (i := 40) (by decide +kernel)))) (by decide +kernel)
theorem k_st_Curve_inverse : Cond.static y_Curve_inverse ∈ yT := yT_in (List.mem_append_right _ (List.mem_append_left _ (List.mem_of_getElem? (i := 41) (by decide +kernel)))) (by decide +kernel)
theorem k_co_Curve_inverse : Cond.code y_Curve_inverse b_Curve_inverse 4 (some .int) ∈ yT := yT_in (List.mem_append_right _ (List.mem_append_left _ (List.mem_of_getElem? (i := 42) (by decide +kernel)))) (by decide +kernel)
theorem k_ml_Curve_9 : Cond.methodLink R_Curve 9 y_Curve_point ∈ yT := yT_in (List.mem_append_right _ (List.mem_append_left _ (List.mem_of_getElem? (i := 43) (by decide +kernel)))) (by decide +kernel)
theorem k_fl_Base_9 : Cond.fieldLink R_Base 9 "NotePool$Base" "doubles" "[I" ∈ yT := yT_in (List.mem_append_right _ (List.mem_append_left _ (List.mem_of_getElem? (i := 44) (by decide +kernel)))) (by decide +kernel)
theorem k_fl_Bases_12 : Cond.fieldLink R_Bases 12 "NotePool$Bases" "g" "LNotePool$Base;" ∈ yT := yT_in (List.mem_append_right _ (List.mem_append_left _ (List.mem_of_getElem? (i := 49) (by decide +kernel)))) (by decide +kernel)
theorem k_fl_Key_29 : Cond.fieldLink R_Key 29 "NotePool$Bases" "g" "LNotePool$Base;" ∈ yT := yT_in (List.mem_append_right _ (List.mem_append_left _ (List.mem_of_getElem? (i := 50) (by decide +kernel)))) (by decide +kernel)
theorem k_fl_Output_35 : Cond.fieldLink R_Output 35 "NotePool$Bases" "g" "LNotePool$Base;" ∈ yT := yT_in (List.mem_append_right _ (List.mem_append_left _ (List.mem_of_getElem? (i := 51) (by decide +kernel)))) (by decide +kernel)
theorem k_fl_Bases_18 : Cond.fieldLink R_Bases 18 "NotePool$Bases" "v" "LNotePool$Base;" ∈ yT := yT_in (List.mem_append_right _ (List.mem_append_left _ (List.mem_of_getElem? (i := 52) (by decide +kernel)))) (by decide +kernel)
theorem k_fl_Draft_48 : Cond.fieldLink R_Draft 48 "NotePool$Bases" "v" "LNotePool$Base;" ∈ yT := yT_in (List.mem_append_right _ (List.mem_append_left _ (List.mem_of_getElem? (i := 53) (by decide +kernel)))) (by decide +kernel)
theorem k_fl_Bases_21 : Cond.fieldLink R_Bases 21 "NotePool$Bases" "\x72" "LNotePool$Base;" ∈ yT := yT_in (List.mem_append_right _ (List.mem_append_left _ (List.mem_of_getElem? (i := 54) (by decide +kernel)))) (by decide +kernel)
theorem k_fl_P_221 : Cond.fieldLink R_P 221 "NotePool$Bases" "\x72" "LNotePool$Base;" ∈ yT := yT_in (List.mem_append_right _ (List.mem_append_left _ (List.mem_of_getElem? (i := 55) (by decide +kernel)))) (by decide +kernel)
theorem k_fl_Bases_24 : Cond.fieldLink R_Bases 24 "NotePool$Bases" "a" "LNotePool$Base;" ∈ yT := yT_in (List.mem_append_right _ (List.mem_append_left _ (List.mem_of_getElem? (i := 56) (by decide +kernel)))) (by decide +kernel)
theorem k_fl_Bases_27 : Cond.fieldLink R_Bases 27 "NotePool$Bases" "b" "LNotePool$Base;" ∈ yT := yT_in (List.mem_append_right _ (List.mem_append_left _ (List.mem_of_getElem? (i := 57) (by decide +kernel)))) (by decide +kernel)
theorem k_cl_P_16 : Cond.classLink R_P 16 R_Tree ∈ yT := yT_in (List.mem_append_right _ (List.mem_append_left _ (List.mem_of_getElem? (i := 69) (by decide +kernel)))) (by decide +kernel)
theorem k_it_Tree : Cond.instantiable R_Tree 6 ∈ yT := yT_in (List.mem_append_right _ (List.mem_append_left _ (List.mem_of_getElem? (i := 70) (by decide +kernel)))) (by decide +kernel)
theorem k_ml_P_18 : Cond.methodLink R_P 18 y_Tree_init ∈ yT := yT_in (List.mem_append_right _ (List.mem_append_left _ (List.mem_of_getElem? (i := 71) (by decide +kernel)))) (by decide +kernel)
theorem k_im_Tree_init : Cond.instanceMethod y_Tree_init ∈ yT := yT_in (List.mem_append_right _ (List.mem_append_left _ (List.mem_of_getElem? (i := 72) (by decide +kernel)))) (by decide +kernel)
theorem k_co_Tree_init : Cond.code y_Tree_init b_Tree_init 6 (Option.none : Option Jvm.ClassFile.FieldType) ∈ yT := yT_in (List.mem_append_right _ (List.mem_append_left _ (List.mem_of_getElem? (i := 73) (by decide +kernel)))) (by decide +kernel)
theorem k_ml_Tree_28 : Cond.methodLink R_Tree 28 y_Tree_place ∈ yT := yT_in (List.mem_append_right _ (List.mem_append_left _ (List.mem_of_getElem? (i := 75) (by decide +kernel)))) (by decide +kernel)
theorem k_st_Tree_place : Cond.static y_Tree_place ∈ yT := yT_in (List.mem_append_right _ (List.mem_append_left _ (List.mem_of_getElem? (i := 76) (by decide +kernel)))) (by decide +kernel)
theorem k_co_Tree_place : Cond.code y_Tree_place b_Tree_place 2 (some .int) ∈ yT := yT_in (List.mem_append_right _ (List.mem_append_left _ (List.mem_of_getElem? (i := 77) (by decide +kernel)))) (by decide +kernel)
theorem k_ml_Tree_32 : Cond.methodLink R_Tree 32 y_Bases_hash ∈ yT := yT_in (List.mem_append_right _ (List.mem_append_left _ (List.mem_of_getElem? (i := 78) (by decide +kernel)))) (by decide +kernel)
theorem k_im_Bases_hash : Cond.instanceMethod y_Bases_hash ∈ yT := yT_in (List.mem_append_right _ (List.mem_append_left _ (List.mem_of_getElem? (i := 79) (by decide +kernel)))) (by decide +kernel)
theorem k_se_Bases_hash : Cond.selects R_Bases y_Bases_hash y_Bases_hash ∈ yT := yT_in (List.mem_append_right _ (List.mem_append_left _ (List.mem_of_getElem? (i := 80) (by decide +kernel)))) (by decide +kernel)
theorem k_co_Bases_hash : Cond.code y_Bases_hash b_Bases_hash 5 (some .int) ∈ yT := yT_in (List.mem_append_right _ (List.mem_append_left _ (List.mem_of_getElem? (i := 81) (by decide +kernel)))) (by decide +kernel)
theorem k_ml_Bases_30 : Cond.methodLink R_Bases 30 y_Base_times ∈ yT := yT_in (List.mem_append_right _ (List.mem_append_left _ (List.mem_of_getElem? (i := 82) (by decide +kernel)))) (by decide +kernel)
theorem k_im_Base_times : Cond.instanceMethod y_Base_times ∈ yT := yT_in (List.mem_append_right _ (List.mem_append_left _ (List.mem_of_getElem? (i := 83) (by decide +kernel)))) (by decide +kernel)
theorem k_se_Base_times : Cond.selects R_Base y_Base_times y_Base_times ∈ yT := yT_in (List.mem_append_right _ (List.mem_append_left _ (List.mem_of_getElem? (i := 84) (by decide +kernel)))) (by decide +kernel)
theorem k_co_Base_times : Cond.code y_Base_times b_Base_times 5 (some .int) ∈ yT := yT_in (List.mem_append_right _ (List.mem_append_left _ (List.mem_of_getElem? (i := 85) (by decide +kernel)))) (by decide +kernel)
theorem k_ml_Base_24 : Cond.methodLink R_Base 24 y_Math_floorMod ∈ yT := yT_in (List.mem_append_right _ (List.mem_append_left _ (List.mem_of_getElem? (i := 86) (by decide +kernel)))) (by decide +kernel)
theorem k_st_Math_floorMod : Cond.static y_Math_floorMod ∈ yT := yT_in (List.mem_append_right _ (List.mem_append_left _ (List.mem_of_getElem? (i := 87) (by decide +kernel)))) (by decide +kernel)
theorem k_co_Math_floorMod : Cond.code y_Math_floorMod b_Math_floorMod 3 (some .int) ∈ yT := yT_in (List.mem_append_right _ (List.mem_append_left _ (List.mem_of_getElem? (i := 88) (by decide +kernel)))) (by decide +kernel)
theorem k_ml_Bases_34 : Cond.methodLink R_Bases 34 y_Curve_sum ∈ yT := yT_in (List.mem_append_right _ (List.mem_append_left _ (List.mem_of_getElem? (i := 89) (by decide +kernel)))) (by decide +kernel)
theorem k_ml_Bases_40 : Cond.methodLink R_Bases 40 y_Curve_coordinate ∈ yT := yT_in (List.mem_append_right _ (List.mem_append_left _ (List.mem_of_getElem? (i := 90) (by decide +kernel)))) (by decide +kernel)
theorem k_st_Curve_coordinate : Cond.static y_Curve_coordinate ∈ yT := yT_in (List.mem_append_right _ (List.mem_append_left _ (List.mem_of_getElem? (i := 91) (by decide +kernel)))) (by decide +kernel)
theorem k_co_Curve_coordinate : Cond.code y_Curve_coordinate b_Curve_coordinate 2 (some .int) ∈ yT := yT_in (List.mem_append_right _ (List.mem_append_left _ (List.mem_of_getElem? (i := 92) (by decide +kernel)))) (by decide +kernel)
theorem k_fl_Tree_24 : Cond.fieldLink R_Tree 24 "NotePool$Tree" "bases" "LNotePool$Bases;" ∈ yT := yT_in (List.mem_append_right _ (List.mem_append_left _ (List.mem_of_getElem? (i := 93) (by decide +kernel)))) (by decide +kernel)
theorem k_fl_Tree_9 : Cond.fieldLink R_Tree 9 "NotePool$Tree" "nodes" "[I" ∈ yT := yT_in (List.mem_append_right _ (List.mem_append_left _ (List.mem_of_getElem? (i := 94) (by decide +kernel)))) (by decide +kernel)
theorem k_fl_Key_73 : Cond.fieldLink R_Key 73 "NotePool$Tree" "nodes" "[I" ∈ yT := yT_in (List.mem_append_right _ (List.mem_append_left _ (List.mem_of_getElem? (i := 95) (by decide +kernel)))) (by decide +kernel)
theorem k_fl_P_155 : Cond.fieldLink R_P 155 "NotePool$Tree" "nodes" "[I" ∈ yT := yT_in (List.mem_append_right _ (List.mem_append_left _ (List.mem_of_getElem? (i := 96) (by decide +kernel)))) (by decide +kernel)
theorem k_fl_Tree_15 : Cond.fieldLink R_Tree 15 "NotePool$Tree" "sealedValues" "[I" ∈ yT := yT_in (List.mem_append_right _ (List.mem_append_left _ (List.mem_of_getElem? (i := 97) (by decide +kernel)))) (by decide +kernel)
theorem k_fl_Key_55 : Cond.fieldLink R_Key 55 "NotePool$Tree" "sealedValues" "[I" ∈ yT := yT_in (List.mem_append_right _ (List.mem_append_left _ (List.mem_of_getElem? (i := 98) (by decide +kernel)))) (by decide +kernel)
theorem k_fl_Tree_18 : Cond.fieldLink R_Tree 18 "NotePool$Tree" "sealedTrapdoors" "[I" ∈ yT := yT_in (List.mem_append_right _ (List.mem_append_left _ (List.mem_of_getElem? (i := 99) (by decide +kernel)))) (by decide +kernel)
theorem k_fl_Key_66 : Cond.fieldLink R_Key 66 "NotePool$Tree" "sealedTrapdoors" "[I" ∈ yT := yT_in (List.mem_append_right _ (List.mem_append_left _ (List.mem_of_getElem? (i := 100) (by decide +kernel)))) (by decide +kernel)
theorem k_fl_Tree_21 : Cond.fieldLink R_Tree 21 "NotePool$Tree" "sealPoints" "[I" ∈ yT := yT_in (List.mem_append_right _ (List.mem_append_left _ (List.mem_of_getElem? (i := 101) (by decide +kernel)))) (by decide +kernel)
theorem k_fl_Key_44 : Cond.fieldLink R_Key 44 "NotePool$Tree" "sealPoints" "[I" ∈ yT := yT_in (List.mem_append_right _ (List.mem_append_left _ (List.mem_of_getElem? (i := 102) (by decide +kernel)))) (by decide +kernel)
theorem k_fl_Tree_38 : Cond.fieldLink R_Tree 38 "NotePool$Tree" "filled" "I" ∈ yT := yT_in (List.mem_append_right _ (List.mem_append_left _ (List.mem_of_getElem? (i := 103) (by decide +kernel)))) (by decide +kernel)
theorem k_fl_P_64 : Cond.fieldLink R_P 64 "NotePool$Tree" "filled" "I" ∈ yT := yT_in (List.mem_append_right _ (List.mem_append_left _ (List.mem_of_getElem? (i := 104) (by decide +kernel)))) (by decide +kernel)
theorem k_cl_P_25 : Cond.classLink R_P 25 R_Chain ∈ yT := yT_in (List.mem_append_right _ (List.mem_append_left _ (List.mem_of_getElem? (i := 118) (by decide +kernel)))) (by decide +kernel)
theorem k_it_Chain : Cond.instantiable R_Chain 4 ∈ yT := yT_in (List.mem_append_right _ (List.mem_append_left _ (List.mem_of_getElem? (i := 119) (by decide +kernel)))) (by decide +kernel)
theorem k_ml_P_27 : Cond.methodLink R_P 27 y_Tree_root ∈ yT := yT_in (List.mem_append_right _ (List.mem_append_left _ (List.mem_of_getElem? (i := 120) (by decide +kernel)))) (by decide +kernel)
theorem k_im_Tree_root : Cond.instanceMethod y_Tree_root ∈ yT := yT_in (List.mem_append_right _ (List.mem_append_left _ (List.mem_of_getElem? (i := 121) (by decide +kernel)))) (by decide +kernel)
theorem k_se_Tree_root : Cond.selects R_Tree y_Tree_root y_Tree_root ∈ yT := yT_in (List.mem_append_right _ (List.mem_append_left _ (List.mem_of_getElem? (i := 122) (by decide +kernel)))) (by decide +kernel)
theorem k_co_Tree_root : Cond.code y_Tree_root b_Tree_root 1 (some .int) ∈ yT := yT_in (List.mem_append_right _ (List.mem_append_left _ (List.mem_of_getElem? (i := 123) (by decide +kernel)))) (by decide +kernel)
theorem k_ml_P_31 : Cond.methodLink R_P 31 y_Chain_init ∈ yT := yT_in (List.mem_append_right _ (List.mem_append_left _ (List.mem_of_getElem? (i := 124) (by decide +kernel)))) (by decide +kernel)
theorem k_im_Chain_init : Cond.instanceMethod y_Chain_init ∈ yT := yT_in (List.mem_append_right _ (List.mem_append_left _ (List.mem_of_getElem? (i := 125) (by decide +kernel)))) (by decide +kernel)
theorem k_co_Chain_init : Cond.code y_Chain_init b_Chain_init 3 (Option.none : Option Jvm.ClassFile.FieldType) ∈ yT := yT_in (List.mem_append_right _ (List.mem_append_left _ (List.mem_of_getElem? (i := 126) (by decide +kernel)))) (by decide +kernel)
theorem k_cl_Chain_9 : Cond.classLink R_Chain 9 R_Block ∈ yT := yT_in (List.mem_append_right _ (List.mem_append_left _ (List.mem_of_getElem? (i := 128) (by decide +kernel)))) (by decide +kernel)
theorem k_it_Block : Cond.instantiable R_Block 5 ∈ yT := yT_in (List.mem_append_right _ (List.mem_append_left _ (List.mem_of_getElem? (i := 130) (by decide +kernel)))) (by decide +kernel)
theorem k_im_Block_init : Cond.instanceMethod y_Block_init ∈ yT := yT_in (List.mem_append_right _ (List.mem_append_left _ (List.mem_of_getElem? (i := 132) (by decide +kernel)))) (by decide +kernel)
theorem k_co_Block_init : Cond.code y_Block_init b_Block_init 1 (Option.none : Option Jvm.ClassFile.FieldType) ∈ yT := yT_in (List.mem_append_right _ (List.mem_append_left _ (List.mem_of_getElem? (i := 133) (by decide +kernel)))) (by decide +kernel)
theorem k_fl_Block_9 : Cond.fieldLink R_Block 9 "NotePool$Block" "nullifiers" "[I" ∈ yT := yT_in (List.mem_append_right _ (List.mem_append_left _ (List.mem_of_getElem? (i := 135) (by decide +kernel)))) (by decide +kernel)
theorem k_fl_Chain_34 : Cond.fieldLink R_Chain 34 "NotePool$Block" "nullifiers" "[I" ∈ yT := yT_in (List.mem_append_right _ (List.mem_append_left _ (List.mem_of_getElem? (i := 136) (by decide +kernel)))) (by decide +kernel)
theorem k_fl_Chain_31 : Cond.fieldLink R_Chain 31 "NotePool$Block" "spendCount" "I" ∈ yT := yT_in (List.mem_append_right _ (List.mem_append_left _ (List.mem_of_getElem? (i := 137) (by decide +kernel)))) (by decide +kernel)
theorem k_fl_Chain_44 : Cond.fieldLink R_Chain 44 "NotePool$Block" "outputCount" "I" ∈ yT := yT_in (List.mem_append_right _ (List.mem_append_left _ (List.mem_of_getElem? (i := 138) (by decide +kernel)))) (by decide +kernel)
theorem k_fl_Chain_48 : Cond.fieldLink R_Chain 48 "NotePool$Block" "balance" "I" ∈ yT := yT_in (List.mem_append_right _ (List.mem_append_left _ (List.mem_of_getElem? (i := 139) (by decide +kernel)))) (by decide +kernel)
theorem k_fl_Chain_28 : Cond.fieldLink R_Chain 28 "NotePool$Block" "rootBehind" "I" ∈ yT := yT_in (List.mem_append_right _ (List.mem_append_left _ (List.mem_of_getElem? (i := 140) (by decide +kernel)))) (by decide +kernel)
theorem k_fl_Chain_11 : Cond.fieldLink R_Chain 11 "NotePool$Chain" "blocks" "[LNotePool$Block;" ∈ yT := yT_in (List.mem_append_right _ (List.mem_append_left _ (List.mem_of_getElem? (i := 152) (by decide +kernel)))) (by decide +kernel)
theorem k_fl_Chain_17 : Cond.fieldLink R_Chain 17 "NotePool$Chain" "emptyRoot" "I" ∈ yT := yT_in (List.mem_append_right _ (List.mem_append_left _ (List.mem_of_getElem? (i := 153) (by decide +kernel)))) (by decide +kernel)
theorem k_fl_Chain_22 : Cond.fieldLink R_Chain 22 "NotePool$Chain" "count" "I" ∈ yT := yT_in (List.mem_append_right _ (List.mem_append_left _ (List.mem_of_getElem? (i := 154) (by decide +kernel)))) (by decide +kernel)
theorem k_fl_P_147 : Cond.fieldLink R_P 147 "NotePool$Chain" "count" "I" ∈ yT := yT_in (List.mem_append_right _ (List.mem_append_left _ (List.mem_of_getElem? (i := 155) (by decide +kernel)))) (by decide +kernel)
theorem k_fl_Chain_25 : Cond.fieldLink R_Chain 25 "NotePool$Chain" "content" "I" ∈ yT := yT_in (List.mem_append_right _ (List.mem_append_left _ (List.mem_of_getElem? (i := 156) (by decide +kernel)))) (by decide +kernel)
theorem k_fl_P_163 : Cond.fieldLink R_P 163 "NotePool$Chain" "content" "I" ∈ yT := yT_in (List.mem_append_right _ (List.mem_append_left _ (List.mem_of_getElem? (i := 157) (by decide +kernel)))) (by decide +kernel)
theorem k_cl_P_38 : Cond.classLink R_P 38 R_Draft ∈ yT := yT_in (List.mem_append_right _ (List.mem_append_left _ (List.mem_of_getElem? (i := 167) (by decide +kernel)))) (by decide +kernel)
theorem k_it_Draft : Cond.instantiable R_Draft 6 ∈ yT := yT_in (List.mem_append_right _ (List.mem_append_left _ (List.mem_of_getElem? (i := 168) (by decide +kernel)))) (by decide +kernel)
theorem k_ml_P_40 : Cond.methodLink R_P 40 y_Draft_init ∈ yT := yT_in (List.mem_append_right _ (List.mem_append_left _ (List.mem_of_getElem? (i := 169) (by decide +kernel)))) (by decide +kernel)
theorem k_im_Draft_init : Cond.instanceMethod y_Draft_init ∈ yT := yT_in (List.mem_append_right _ (List.mem_append_left _ (List.mem_of_getElem? (i := 170) (by decide +kernel)))) (by decide +kernel)
theorem k_co_Draft_init : Cond.code y_Draft_init b_Draft_init 2 (Option.none : Option Jvm.ClassFile.FieldType) ∈ yT := yT_in (List.mem_append_right _ (List.mem_append_left _ (List.mem_of_getElem? (i := 171) (by decide +kernel)))) (by decide +kernel)
theorem k_cl_Draft_9 : Cond.classLink R_Draft 9 R_Spend ∈ yT := yT_in (List.mem_append_right _ (List.mem_append_left _ (List.mem_of_getElem? (i := 173) (by decide +kernel)))) (by decide +kernel)
theorem k_cl_Draft_17 : Cond.classLink R_Draft 17 R_Output ∈ yT := yT_in (List.mem_append_right _ (List.mem_append_left _ (List.mem_of_getElem? (i := 175) (by decide +kernel)))) (by decide +kernel)
theorem k_it_Spend : Cond.instantiable R_Spend 10 ∈ yT := yT_in (List.mem_append_right _ (List.mem_append_left _ (List.mem_of_getElem? (i := 177) (by decide +kernel)))) (by decide +kernel)
theorem k_im_Spend_init : Cond.instanceMethod y_Spend_init ∈ yT := yT_in (List.mem_append_right _ (List.mem_append_left _ (List.mem_of_getElem? (i := 179) (by decide +kernel)))) (by decide +kernel)
theorem k_co_Spend_init : Cond.code y_Spend_init b_Spend_init 1 (Option.none : Option Jvm.ClassFile.FieldType) ∈ yT := yT_in (List.mem_append_right _ (List.mem_append_left _ (List.mem_of_getElem? (i := 180) (by decide +kernel)))) (by decide +kernel)
theorem k_fl_Spend_24 : Cond.fieldLink R_Spend 24 "NotePool$Spend" "secret" "I" ∈ yT := yT_in (List.mem_append_right _ (List.mem_append_left _ (List.mem_of_getElem? (i := 182) (by decide +kernel)))) (by decide +kernel)
theorem k_fl_Spend_28 : Cond.fieldLink R_Spend 28 "NotePool$Spend" "address" "I" ∈ yT := yT_in (List.mem_append_right _ (List.mem_append_left _ (List.mem_of_getElem? (i := 183) (by decide +kernel)))) (by decide +kernel)
theorem k_fl_Spend_15 : Cond.fieldLink R_Spend 15 "NotePool$Spend" "leaf" "I" ∈ yT := yT_in (List.mem_append_right _ (List.mem_append_left _ (List.mem_of_getElem? (i := 184) (by decide +kernel)))) (by decide +kernel)
theorem k_fl_Spend_32 : Cond.fieldLink R_Spend 32 "NotePool$Spend" "value" "I" ∈ yT := yT_in (List.mem_append_right _ (List.mem_append_left _ (List.mem_of_getElem? (i := 185) (by decide +kernel)))) (by decide +kernel)
theorem k_fl_Spend_38 : Cond.fieldLink R_Spend 38 "NotePool$Spend" "trapdoor" "I" ∈ yT := yT_in (List.mem_append_right _ (List.mem_append_left _ (List.mem_of_getElem? (i := 186) (by decide +kernel)))) (by decide +kernel)
theorem k_fl_Spend_60 : Cond.fieldLink R_Spend 60 "NotePool$Spend" "coverScalar" "I" ∈ yT := yT_in (List.mem_append_right _ (List.mem_append_left _ (List.mem_of_getElem? (i := 187) (by decide +kernel)))) (by decide +kernel)
theorem k_fl_Spend_9 : Cond.fieldLink R_Spend 9 "NotePool$Spend" "path" "[I" ∈ yT := yT_in (List.mem_append_right _ (List.mem_append_left _ (List.mem_of_getElem? (i := 189) (by decide +kernel)))) (by decide +kernel)
theorem k_fl_Spend_53 : Cond.fieldLink R_Spend 53 "NotePool$Spend" "anchor" "I" ∈ yT := yT_in (List.mem_append_right _ (List.mem_append_left _ (List.mem_of_getElem? (i := 190) (by decide +kernel)))) (by decide +kernel)
theorem k_fl_Draft_85 : Cond.fieldLink R_Draft 85 "NotePool$Spend" "anchor" "I" ∈ yT := yT_in (List.mem_append_right _ (List.mem_append_left _ (List.mem_of_getElem? (i := 191) (by decide +kernel)))) (by decide +kernel)
theorem k_fl_P_200 : Cond.fieldLink R_P 200 "NotePool$Spend" "anchor" "I" ∈ yT := yT_in (List.mem_append_right _ (List.mem_append_left _ (List.mem_of_getElem? (i := 192) (by decide +kernel)))) (by decide +kernel)
theorem k_fl_Spend_44 : Cond.fieldLink R_Spend 44 "NotePool$Spend" "nullifier" "I" ∈ yT := yT_in (List.mem_append_right _ (List.mem_append_left _ (List.mem_of_getElem? (i := 193) (by decide +kernel)))) (by decide +kernel)
theorem k_fl_Chain_53 : Cond.fieldLink R_Chain 53 "NotePool$Spend" "nullifier" "I" ∈ yT := yT_in (List.mem_append_right _ (List.mem_append_left _ (List.mem_of_getElem? (i := 194) (by decide +kernel)))) (by decide +kernel)
theorem k_fl_Draft_72 : Cond.fieldLink R_Draft 72 "NotePool$Spend" "nullifier" "I" ∈ yT := yT_in (List.mem_append_right _ (List.mem_append_left _ (List.mem_of_getElem? (i := 195) (by decide +kernel)))) (by decide +kernel)
theorem k_fl_P_210 : Cond.fieldLink R_P 210 "NotePool$Spend" "nullifier" "I" ∈ yT := yT_in (List.mem_append_right _ (List.mem_append_left _ (List.mem_of_getElem? (i := 196) (by decide +kernel)))) (by decide +kernel)
theorem k_fl_Spend_69 : Cond.fieldLink R_Spend 69 "NotePool$Spend" "cover" "I" ∈ yT := yT_in (List.mem_append_right _ (List.mem_append_left _ (List.mem_of_getElem? (i := 197) (by decide +kernel)))) (by decide +kernel)
theorem k_fl_Draft_65 : Cond.fieldLink R_Draft 65 "NotePool$Spend" "cover" "I" ∈ yT := yT_in (List.mem_append_right _ (List.mem_append_left _ (List.mem_of_getElem? (i := 198) (by decide +kernel)))) (by decide +kernel)
theorem k_it_Output : Cond.instantiable R_Output 9 ∈ yT := yT_in (List.mem_append_right _ (List.mem_append_left _ (List.mem_of_getElem? (i := 220) (by decide +kernel)))) (by decide +kernel)
theorem k_im_Output_init : Cond.instanceMethod y_Output_init ∈ yT := yT_in (List.mem_append_right _ (List.mem_append_left _ (List.mem_of_getElem? (i := 222) (by decide +kernel)))) (by decide +kernel)
theorem k_co_Output_init : Cond.code y_Output_init b_Output_init 1 (Option.none : Option Jvm.ClassFile.FieldType) ∈ yT := yT_in (List.mem_append_right _ (List.mem_append_left _ (List.mem_of_getElem? (i := 223) (by decide +kernel)))) (by decide +kernel)
theorem k_fl_Output_9 : Cond.fieldLink R_Output 9 "NotePool$Output" "address" "I" ∈ yT := yT_in (List.mem_append_right _ (List.mem_append_left _ (List.mem_of_getElem? (i := 225) (by decide +kernel)))) (by decide +kernel)
theorem k_fl_Output_15 : Cond.fieldLink R_Output 15 "NotePool$Output" "value" "I" ∈ yT := yT_in (List.mem_append_right _ (List.mem_append_left _ (List.mem_of_getElem? (i := 226) (by decide +kernel)))) (by decide +kernel)
theorem k_fl_Output_18 : Cond.fieldLink R_Output 18 "NotePool$Output" "trapdoor" "I" ∈ yT := yT_in (List.mem_append_right _ (List.mem_append_left _ (List.mem_of_getElem? (i := 227) (by decide +kernel)))) (by decide +kernel)
theorem k_fl_Output_27 : Cond.fieldLink R_Output 27 "NotePool$Output" "commitment" "I" ∈ yT := yT_in (List.mem_append_right _ (List.mem_append_left _ (List.mem_of_getElem? (i := 228) (by decide +kernel)))) (by decide +kernel)
theorem k_fl_Tree_53 : Cond.fieldLink R_Tree 53 "NotePool$Output" "commitment" "I" ∈ yT := yT_in (List.mem_append_right _ (List.mem_append_left _ (List.mem_of_getElem? (i := 229) (by decide +kernel)))) (by decide +kernel)
theorem k_fl_Output_45 : Cond.fieldLink R_Output 45 "NotePool$Output" "sealPoint" "I" ∈ yT := yT_in (List.mem_append_right _ (List.mem_append_left _ (List.mem_of_getElem? (i := 230) (by decide +kernel)))) (by decide +kernel)
theorem k_fl_Tree_50 : Cond.fieldLink R_Tree 50 "NotePool$Output" "sealPoint" "I" ∈ yT := yT_in (List.mem_append_right _ (List.mem_append_left _ (List.mem_of_getElem? (i := 231) (by decide +kernel)))) (by decide +kernel)
theorem k_fl_Output_51 : Cond.fieldLink R_Output 51 "NotePool$Output" "sealedValue" "I" ∈ yT := yT_in (List.mem_append_right _ (List.mem_append_left _ (List.mem_of_getElem? (i := 232) (by decide +kernel)))) (by decide +kernel)
theorem k_fl_Tree_42 : Cond.fieldLink R_Tree 42 "NotePool$Output" "sealedValue" "I" ∈ yT := yT_in (List.mem_append_right _ (List.mem_append_left _ (List.mem_of_getElem? (i := 233) (by decide +kernel)))) (by decide +kernel)
theorem k_fl_Output_54 : Cond.fieldLink R_Output 54 "NotePool$Output" "sealedTrapdoor" "I" ∈ yT := yT_in (List.mem_append_right _ (List.mem_append_left _ (List.mem_of_getElem? (i := 234) (by decide +kernel)))) (by decide +kernel)
theorem k_fl_Tree_47 : Cond.fieldLink R_Tree 47 "NotePool$Output" "sealedTrapdoor" "I" ∈ yT := yT_in (List.mem_append_right _ (List.mem_append_left _ (List.mem_of_getElem? (i := 235) (by decide +kernel)))) (by decide +kernel)
theorem k_fl_Draft_41 : Cond.fieldLink R_Draft 41 "NotePool$Output" "coverScalar" "I" ∈ yT := yT_in (List.mem_append_right _ (List.mem_append_left _ (List.mem_of_getElem? (i := 236) (by decide +kernel)))) (by decide +kernel)
theorem k_fl_Output_57 : Cond.fieldLink R_Output 57 "NotePool$Output" "coverScalar" "I" ∈ yT := yT_in (List.mem_append_right _ (List.mem_append_left _ (List.mem_of_getElem? (i := 237) (by decide +kernel)))) (by decide +kernel)
theorem k_fl_Output_63 : Cond.fieldLink R_Output 63 "NotePool$Output" "cover" "I" ∈ yT := yT_in (List.mem_append_right _ (List.mem_append_left _ (List.mem_of_getElem? (i := 238) (by decide +kernel)))) (by decide +kernel)
theorem k_fl_Draft_71 : Cond.fieldLink R_Draft 71 "NotePool$Output" "cover" "I" ∈ yT := yT_in (List.mem_append_right _ (List.mem_append_left _ (List.mem_of_getElem? (i := 239) (by decide +kernel)))) (by decide +kernel)
theorem k_fl_Draft_11 : Cond.fieldLink R_Draft 11 "NotePool$Draft" "spends" "[LNotePool$Spend;" ∈ yT := yT_in (List.mem_append_right _ (List.mem_append_right _ (List.mem_append_left _ (List.mem_of_getElem? (i := 19) (by decide +kernel))))) (by decide +kernel)
theorem k_fl_P_81 : Cond.fieldLink R_P 81 "NotePool$Draft" "spends" "[LNotePool$Spend;" ∈ yT := yT_in (List.mem_append_right _ (List.mem_append_right _ (List.mem_append_left _ (List.mem_of_getElem? (i := 20) (by decide +kernel))))) (by decide +kernel)
theorem k_fl_Chain_49 : Cond.fieldLink R_Chain 49 "NotePool$Draft" "spends" "[LNotePool$Spend;" ∈ yT := yT_in (List.mem_append_right _ (List.mem_append_right _ (List.mem_append_left _ (List.mem_of_getElem? (i := 21) (by decide +kernel))))) (by decide +kernel)
theorem k_fl_Draft_19 : Cond.fieldLink R_Draft 19 "NotePool$Draft" "outputs" "[LNotePool$Output;" ∈ yT := yT_in (List.mem_append_right _ (List.mem_append_right _ (List.mem_append_left _ (List.mem_of_getElem? (i := 22) (by decide +kernel))))) (by decide +kernel)
theorem k_fl_P_100 : Cond.fieldLink R_P 100 "NotePool$Draft" "outputs" "[LNotePool$Output;" ∈ yT := yT_in (List.mem_append_right _ (List.mem_append_right _ (List.mem_append_left _ (List.mem_of_getElem? (i := 23) (by decide +kernel))))) (by decide +kernel)
theorem k_fl_Draft_25 : Cond.fieldLink R_Draft 25 "NotePool$Draft" "spendCount" "I" ∈ yT := yT_in (List.mem_append_right _ (List.mem_append_right _ (List.mem_append_left _ (List.mem_of_getElem? (i := 24) (by decide +kernel))))) (by decide +kernel)
theorem k_fl_Chain_38 : Cond.fieldLink R_Chain 38 "NotePool$Draft" "spendCount" "I" ∈ yT := yT_in (List.mem_append_right _ (List.mem_append_right _ (List.mem_append_left _ (List.mem_of_getElem? (i := 25) (by decide +kernel))))) (by decide +kernel)
theorem k_fl_P_78 : Cond.fieldLink R_P 78 "NotePool$Draft" "spendCount" "I" ∈ yT := yT_in (List.mem_append_right _ (List.mem_append_right _ (List.mem_append_left _ (List.mem_of_getElem? (i := 26) (by decide +kernel))))) (by decide +kernel)
theorem k_fl_Draft_29 : Cond.fieldLink R_Draft 29 "NotePool$Draft" "outputCount" "I" ∈ yT := yT_in (List.mem_append_right _ (List.mem_append_right _ (List.mem_append_left _ (List.mem_of_getElem? (i := 27) (by decide +kernel))))) (by decide +kernel)
theorem k_fl_Chain_41 : Cond.fieldLink R_Chain 41 "NotePool$Draft" "outputCount" "I" ∈ yT := yT_in (List.mem_append_right _ (List.mem_append_right _ (List.mem_append_left _ (List.mem_of_getElem? (i := 28) (by decide +kernel))))) (by decide +kernel)
theorem k_fl_P_97 : Cond.fieldLink R_P 97 "NotePool$Draft" "outputCount" "I" ∈ yT := yT_in (List.mem_append_right _ (List.mem_append_right _ (List.mem_append_left _ (List.mem_of_getElem? (i := 29) (by decide +kernel))))) (by decide +kernel)
theorem k_fl_Draft_32 : Cond.fieldLink R_Draft 32 "NotePool$Draft" "balance" "I" ∈ yT := yT_in (List.mem_append_right _ (List.mem_append_right _ (List.mem_append_left _ (List.mem_of_getElem? (i := 30) (by decide +kernel))))) (by decide +kernel)
theorem k_fl_Chain_45 : Cond.fieldLink R_Chain 45 "NotePool$Draft" "balance" "I" ∈ yT := yT_in (List.mem_append_right _ (List.mem_append_right _ (List.mem_append_left _ (List.mem_of_getElem? (i := 31) (by decide +kernel))))) (by decide +kernel)
theorem k_fl_P_116 : Cond.fieldLink R_P 116 "NotePool$Draft" "balance" "I" ∈ yT := yT_in (List.mem_append_right _ (List.mem_append_right _ (List.mem_append_left _ (List.mem_of_getElem? (i := 32) (by decide +kernel))))) (by decide +kernel)
theorem k_fl_Draft_35 : Cond.fieldLink R_Draft 35 "NotePool$Draft" "turn" "I" ∈ yT := yT_in (List.mem_append_right _ (List.mem_append_right _ (List.mem_append_left _ (List.mem_of_getElem? (i := 33) (by decide +kernel))))) (by decide +kernel)
theorem k_fl_P_125 : Cond.fieldLink R_P 125 "NotePool$Draft" "turn" "I" ∈ yT := yT_in (List.mem_append_right _ (List.mem_append_right _ (List.mem_append_left _ (List.mem_of_getElem? (i := 34) (by decide +kernel))))) (by decide +kernel)
theorem k_cl_P_45 : Cond.classLink R_P 45 R_Key ∈ yT := yT_in (List.mem_append_right _ (List.mem_append_right _ (List.mem_append_left _ (List.mem_of_getElem? (i := 48) (by decide +kernel))))) (by decide +kernel)
theorem k_it_Key : Cond.instantiable R_Key 6 ∈ yT := yT_in (List.mem_append_right _ (List.mem_append_right _ (List.mem_append_left _ (List.mem_of_getElem? (i := 50) (by decide +kernel))))) (by decide +kernel)
theorem k_im_Key_init : Cond.instanceMethod y_Key_init ∈ yT := yT_in (List.mem_append_right _ (List.mem_append_right _ (List.mem_append_left _ (List.mem_of_getElem? (i := 52) (by decide +kernel))))) (by decide +kernel)
theorem k_co_Key_init : Cond.code y_Key_init b_Key_init 1 (Option.none : Option Jvm.ClassFile.FieldType) ∈ yT := yT_in (List.mem_append_right _ (List.mem_append_right _ (List.mem_append_left _ (List.mem_of_getElem? (i := 53) (by decide +kernel))))) (by decide +kernel)
theorem k_fl_Key_25 : Cond.fieldLink R_Key 25 "NotePool$Key" "secret" "I" ∈ yT := yT_in (List.mem_append_right _ (List.mem_append_right _ (List.mem_append_left _ (List.mem_of_getElem? (i := 55) (by decide +kernel))))) (by decide +kernel)
theorem k_fl_Spend_19 : Cond.fieldLink R_Spend 19 "NotePool$Key" "secret" "I" ∈ yT := yT_in (List.mem_append_right _ (List.mem_append_right _ (List.mem_append_left _ (List.mem_of_getElem? (i := 56) (by decide +kernel))))) (by decide +kernel)
theorem k_fl_Key_41 : Cond.fieldLink R_Key 41 "NotePool$Key" "address" "I" ∈ yT := yT_in (List.mem_append_right _ (List.mem_append_right _ (List.mem_append_left _ (List.mem_of_getElem? (i := 57) (by decide +kernel))))) (by decide +kernel)
theorem k_fl_Spend_25 : Cond.fieldLink R_Spend 25 "NotePool$Key" "address" "I" ∈ yT := yT_in (List.mem_append_right _ (List.mem_append_right _ (List.mem_append_left _ (List.mem_of_getElem? (i := 58) (by decide +kernel))))) (by decide +kernel)
theorem k_fl_P_104 : Cond.fieldLink R_P 104 "NotePool$Key" "address" "I" ∈ yT := yT_in (List.mem_append_right _ (List.mem_append_right _ (List.mem_append_left _ (List.mem_of_getElem? (i := 59) (by decide +kernel))))) (by decide +kernel)
theorem k_fl_Key_9 : Cond.fieldLink R_Key 9 "NotePool$Key" "found" "[Z" ∈ yT := yT_in (List.mem_append_right _ (List.mem_append_right _ (List.mem_append_left _ (List.mem_of_getElem? (i := 60) (by decide +kernel))))) (by decide +kernel)
theorem k_fl_P_178 : Cond.fieldLink R_P 178 "NotePool$Key" "found" "[Z" ∈ yT := yT_in (List.mem_append_right _ (List.mem_append_right _ (List.mem_append_left _ (List.mem_of_getElem? (i := 61) (by decide +kernel))))) (by decide +kernel)
theorem k_fl_Key_15 : Cond.fieldLink R_Key 15 "NotePool$Key" "values" "[I" ∈ yT := yT_in (List.mem_append_right _ (List.mem_append_right _ (List.mem_append_left _ (List.mem_of_getElem? (i := 62) (by decide +kernel))))) (by decide +kernel)
theorem k_fl_Spend_29 : Cond.fieldLink R_Spend 29 "NotePool$Key" "values" "[I" ∈ yT := yT_in (List.mem_append_right _ (List.mem_append_right _ (List.mem_append_left _ (List.mem_of_getElem? (i := 63) (by decide +kernel))))) (by decide +kernel)
theorem k_fl_P_169 : Cond.fieldLink R_P 169 "NotePool$Key" "values" "[I" ∈ yT := yT_in (List.mem_append_right _ (List.mem_append_right _ (List.mem_append_left _ (List.mem_of_getElem? (i := 64) (by decide +kernel))))) (by decide +kernel)
theorem k_fl_Key_19 : Cond.fieldLink R_Key 19 "NotePool$Key" "trapdoors" "[I" ∈ yT := yT_in (List.mem_append_right _ (List.mem_append_right _ (List.mem_append_left _ (List.mem_of_getElem? (i := 65) (by decide +kernel))))) (by decide +kernel)
theorem k_fl_Spend_35 : Cond.fieldLink R_Spend 35 "NotePool$Key" "trapdoors" "[I" ∈ yT := yT_in (List.mem_append_right _ (List.mem_append_right _ (List.mem_append_left _ (List.mem_of_getElem? (i := 66) (by decide +kernel))))) (by decide +kernel)
theorem k_fl_P_172 : Cond.fieldLink R_P 172 "NotePool$Key" "trapdoors" "[I" ∈ yT := yT_in (List.mem_append_right _ (List.mem_append_right _ (List.mem_append_left _ (List.mem_of_getElem? (i := 67) (by decide +kernel))))) (by decide +kernel)
theorem k_fl_Key_22 : Cond.fieldLink R_Key 22 "NotePool$Key" "nullifiers" "[I" ∈ yT := yT_in (List.mem_append_right _ (List.mem_append_right _ (List.mem_append_left _ (List.mem_of_getElem? (i := 68) (by decide +kernel))))) (by decide +kernel)
theorem k_fl_Spend_41 : Cond.fieldLink R_Spend 41 "NotePool$Key" "nullifiers" "[I" ∈ yT := yT_in (List.mem_append_right _ (List.mem_append_right _ (List.mem_append_left _ (List.mem_of_getElem? (i := 69) (by decide +kernel))))) (by decide +kernel)
theorem k_fl_P_175 : Cond.fieldLink R_P 175 "NotePool$Key" "nullifiers" "[I" ∈ yT := yT_in (List.mem_append_right _ (List.mem_append_right _ (List.mem_append_left _ (List.mem_of_getElem? (i := 70) (by decide +kernel))))) (by decide +kernel)
theorem k_fl_P_10 : Cond.fieldLink R_P 10 "NotePool" "bases" "LNotePool$Bases;" ∈ yT := yT_in (List.mem_append_right _ (List.mem_append_right _ (List.mem_append_left _ (List.mem_of_getElem? (i := 85) (by decide +kernel))))) (by decide +kernel)
theorem k_fl_P_21 : Cond.fieldLink R_P 21 "NotePool" "tree" "LNotePool$Tree;" ∈ yT := yT_in (List.mem_append_right _ (List.mem_append_right _ (List.mem_append_left _ (List.mem_of_getElem? (i := 86) (by decide +kernel))))) (by decide +kernel)
theorem k_fl_P_34 : Cond.fieldLink R_P 34 "NotePool" "chain" "LNotePool$Chain;" ∈ yT := yT_in (List.mem_append_right _ (List.mem_append_right _ (List.mem_append_left _ (List.mem_of_getElem? (i := 87) (by decide +kernel))))) (by decide +kernel)
theorem k_fl_P_41 : Cond.fieldLink R_P 41 "NotePool" "pending" "LNotePool$Draft;" ∈ yT := yT_in (List.mem_append_right _ (List.mem_append_right _ (List.mem_append_left _ (List.mem_of_getElem? (i := 88) (by decide +kernel))))) (by decide +kernel)
theorem k_fl_P_47 : Cond.fieldLink R_P 47 "NotePool" "keys" "[LNotePool$Key;" ∈ yT := yT_in (List.mem_append_right _ (List.mem_append_right _ (List.mem_append_left _ (List.mem_of_getElem? (i := 89) (by decide +kernel))))) (by decide +kernel)
theorem k_fl_P_52 : Cond.fieldLink R_P 52 "NotePool" "keyCount" "I" ∈ yT := yT_in (List.mem_append_right _ (List.mem_append_right _ (List.mem_append_left _ (List.mem_of_getElem? (i := 90) (by decide +kernel))))) (by decide +kernel)
theorem k_ml_Law_13 : Cond.methodLink R_Law 13 y_P_key ∈ yT := yT_in (List.mem_append_right _ (List.mem_append_right _ (List.mem_append_left _ (List.mem_of_getElem? (i := 104) (by decide +kernel))))) (by decide +kernel)
theorem k_im_P_key : Cond.instanceMethod y_P_key ∈ yT := yT_in (List.mem_append_right _ (List.mem_append_right _ (List.mem_append_left _ (List.mem_of_getElem? (i := 105) (by decide +kernel))))) (by decide +kernel)
theorem k_se_P_key : Cond.selects R_P y_P_key y_P_key ∈ yT := yT_in (List.mem_append_right _ (List.mem_append_right _ (List.mem_append_left _ (List.mem_of_getElem? (i := 106) (by decide +kernel))))) (by decide +kernel)
theorem k_co_P_key : Cond.code y_P_key b_P_key 4 (some .int) ∈ yT := yT_in (List.mem_append_right _ (List.mem_append_right _ (List.mem_append_left _ (List.mem_of_getElem? (i := 107) (by decide +kernel))))) (by decide +kernel)
theorem k_ml_P_56 : Cond.methodLink R_P 56 y_P_isScalar ∈ yT := yT_in (List.mem_append_right _ (List.mem_append_right _ (List.mem_append_left _ (List.mem_of_getElem? (i := 108) (by decide +kernel))))) (by decide +kernel)
theorem k_st_P_isScalar : Cond.static y_P_isScalar ∈ yT := yT_in (List.mem_append_right _ (List.mem_append_right _ (List.mem_append_left _ (List.mem_of_getElem? (i := 109) (by decide +kernel))))) (by decide +kernel)
theorem k_co_P_isScalar : Cond.code y_P_isScalar b_P_isScalar 1 (some .boolean) ∈ yT := yT_in (List.mem_append_right _ (List.mem_append_right _ (List.mem_append_left _ (List.mem_of_getElem? (i := 110) (by decide +kernel))))) (by decide +kernel)
theorem k_ml_P_60 : Cond.methodLink R_P 60 y_Key_begin ∈ yT := yT_in (List.mem_append_right _ (List.mem_append_right _ (List.mem_append_left _ (List.mem_of_getElem? (i := 111) (by decide +kernel))))) (by decide +kernel)
theorem k_im_Key_begin : Cond.instanceMethod y_Key_begin ∈ yT := yT_in (List.mem_append_right _ (List.mem_append_right _ (List.mem_append_left _ (List.mem_of_getElem? (i := 112) (by decide +kernel))))) (by decide +kernel)
theorem k_se_Key_begin : Cond.selects R_Key y_Key_begin y_Key_begin ∈ yT := yT_in (List.mem_append_right _ (List.mem_append_right _ (List.mem_append_left _ (List.mem_of_getElem? (i := 113) (by decide +kernel))))) (by decide +kernel)
theorem k_co_Key_begin : Cond.code y_Key_begin b_Key_begin 3 (Option.none : Option Jvm.ClassFile.FieldType) ∈ yT := yT_in (List.mem_append_right _ (List.mem_append_right _ (List.mem_append_left _ (List.mem_of_getElem? (i := 114) (by decide +kernel))))) (by decide +kernel)
theorem k_ml_Key_35 : Cond.methodLink R_Key 35 y_Base_times ∈ yT := yT_in (List.mem_append_right _ (List.mem_append_right _ (List.mem_append_left _ (List.mem_of_getElem? (i := 115) (by decide +kernel))))) (by decide +kernel)
theorem k_ml_P_67 : Cond.methodLink R_P 67 y_Key_look ∈ yT := yT_in (List.mem_append_right _ (List.mem_append_right _ (List.mem_append_left _ (List.mem_of_getElem? (i := 116) (by decide +kernel))))) (by decide +kernel)
theorem k_im_Key_look : Cond.instanceMethod y_Key_look ∈ yT := yT_in (List.mem_append_right _ (List.mem_append_right _ (List.mem_append_left _ (List.mem_of_getElem? (i := 117) (by decide +kernel))))) (by decide +kernel)
theorem k_se_Key_look : Cond.selects R_Key y_Key_look y_Key_look ∈ yT := yT_in (List.mem_append_right _ (List.mem_append_right _ (List.mem_append_left _ (List.mem_of_getElem? (i := 118) (by decide +kernel))))) (by decide +kernel)
theorem k_co_Key_look : Cond.code y_Key_look b_Key_look 7 (Option.none : Option Jvm.ClassFile.FieldType) ∈ yT := yT_in (List.mem_append_right _ (List.mem_append_right _ (List.mem_append_left _ (List.mem_of_getElem? (i := 119) (by decide +kernel))))) (by decide +kernel)
theorem k_ml_Key_49 : Cond.methodLink R_Key 49 y_Curve_multiple ∈ yT := yT_in (List.mem_append_right _ (List.mem_append_right _ (List.mem_append_left _ (List.mem_of_getElem? (i := 120) (by decide +kernel))))) (by decide +kernel)
theorem k_st_Curve_multiple : Cond.static y_Curve_multiple ∈ yT := yT_in (List.mem_append_right _ (List.mem_append_right _ (List.mem_append_left _ (List.mem_of_getElem? (i := 121) (by decide +kernel))))) (by decide +kernel)
theorem k_co_Curve_multiple : Cond.code y_Curve_multiple b_Curve_multiple 5 (some .int) ∈ yT := yT_in (List.mem_append_right _ (List.mem_append_right _ (List.mem_append_left _ (List.mem_of_getElem? (i := 122) (by decide +kernel))))) (by decide +kernel)
theorem k_ml_Curve_19 : Cond.methodLink R_Curve 19 y_Curve_sum ∈ yT := yT_in (List.mem_append_right _ (List.mem_append_right _ (List.mem_append_left _ (List.mem_of_getElem? (i := 123) (by decide +kernel))))) (by decide +kernel)
theorem k_ml_Key_58 : Cond.methodLink R_Key 58 y_Curve_coordinate ∈ yT := yT_in (List.mem_append_right _ (List.mem_append_right _ (List.mem_append_left _ (List.mem_of_getElem? (i := 124) (by decide +kernel))))) (by decide +kernel)
theorem k_ml_Key_61 : Cond.methodLink R_Key 61 y_Math_floorMod ∈ yT := yT_in (List.mem_append_right _ (List.mem_append_right _ (List.mem_append_left _ (List.mem_of_getElem? (i := 125) (by decide +kernel))))) (by decide +kernel)
theorem k_ml_Key_69 : Cond.methodLink R_Key 69 y_Bases_commitment ∈ yT := yT_in (List.mem_append_right _ (List.mem_append_right _ (List.mem_append_left _ (List.mem_of_getElem? (i := 126) (by decide +kernel))))) (by decide +kernel)
theorem k_im_Bases_commitment : Cond.instanceMethod y_Bases_commitment ∈ yT := yT_in (List.mem_append_right _ (List.mem_append_right _ (List.mem_append_left _ (List.mem_of_getElem? (i := 127) (by decide +kernel))))) (by decide +kernel)
theorem k_se_Bases_commitment : Cond.selects R_Bases y_Bases_commitment y_Bases_commitment ∈ yT := yT_in (List.mem_append_right _ (List.mem_append_right _ (List.mem_append_left _ (List.mem_of_getElem? (i := 128) (by decide +kernel))))) (by decide +kernel)
theorem k_co_Bases_commitment : Cond.code y_Bases_commitment b_Bases_commitment 5 (some .int) ∈ yT := yT_in (List.mem_append_right _ (List.mem_append_right _ (List.mem_append_left _ (List.mem_of_getElem? (i := 129) (by decide +kernel))))) (by decide +kernel)
theorem k_ml_Key_76 : Cond.methodLink R_Key 76 y_Bases_nullifier ∈ yT := yT_in (List.mem_append_right _ (List.mem_append_right _ (List.mem_append_left _ (List.mem_of_getElem? (i := 130) (by decide +kernel))))) (by decide +kernel)
theorem k_im_Bases_nullifier : Cond.instanceMethod y_Bases_nullifier ∈ yT := yT_in (List.mem_append_right _ (List.mem_append_right _ (List.mem_append_left _ (List.mem_of_getElem? (i := 131) (by decide +kernel))))) (by decide +kernel)
theorem k_se_Bases_nullifier : Cond.selects R_Bases y_Bases_nullifier y_Bases_nullifier ∈ yT := yT_in (List.mem_append_right _ (List.mem_append_right _ (List.mem_append_left _ (List.mem_of_getElem? (i := 132) (by decide +kernel))))) (by decide +kernel)
theorem k_co_Bases_nullifier : Cond.code y_Bases_nullifier b_Bases_nullifier 3 (some .int) ∈ yT := yT_in (List.mem_append_right _ (List.mem_append_right _ (List.mem_append_left _ (List.mem_of_getElem? (i := 133) (by decide +kernel))))) (by decide +kernel)
theorem k_ml_Law_18 : Cond.methodLink R_Law 18 y_P_clear ∈ yT := yT_in (List.mem_append_right _ (List.mem_append_right _ (List.mem_append_left _ (List.mem_of_getElem? (i := 134) (by decide +kernel))))) (by decide +kernel)
theorem k_im_P_clear : Cond.instanceMethod y_P_clear ∈ yT := yT_in (List.mem_append_right _ (List.mem_append_right _ (List.mem_append_left _ (List.mem_of_getElem? (i := 135) (by decide +kernel))))) (by decide +kernel)
theorem k_se_P_clear : Cond.selects R_P y_P_clear y_P_clear ∈ yT := yT_in (List.mem_append_right _ (List.mem_append_right _ (List.mem_append_left _ (List.mem_of_getElem? (i := 136) (by decide +kernel))))) (by decide +kernel)
theorem k_co_P_clear : Cond.code y_P_clear b_P_clear 1 (Option.none : Option Jvm.ClassFile.FieldType) ∈ yT := yT_in (List.mem_append_right _ (List.mem_append_right _ (List.mem_append_left _ (List.mem_of_getElem? (i := 137) (by decide +kernel))))) (by decide +kernel)
theorem k_ml_P_71 : Cond.methodLink R_P 71 y_Draft_empty ∈ yT := yT_in (List.mem_append_right _ (List.mem_append_right _ (List.mem_append_left _ (List.mem_of_getElem? (i := 138) (by decide +kernel))))) (by decide +kernel)
theorem k_im_Draft_empty : Cond.instanceMethod y_Draft_empty ∈ yT := yT_in (List.mem_append_right _ (List.mem_append_right _ (List.mem_append_left _ (List.mem_of_getElem? (i := 139) (by decide +kernel))))) (by decide +kernel)
theorem k_se_Draft_empty : Cond.selects R_Draft y_Draft_empty y_Draft_empty ∈ yT := yT_in (List.mem_append_right _ (List.mem_append_right _ (List.mem_append_left _ (List.mem_of_getElem? (i := 140) (by decide +kernel))))) (by decide +kernel)
theorem k_co_Draft_empty : Cond.code y_Draft_empty b_Draft_empty 1 (Option.none : Option Jvm.ClassFile.FieldType) ∈ yT := yT_in (List.mem_append_right _ (List.mem_append_right _ (List.mem_append_left _ (List.mem_of_getElem? (i := 141) (by decide +kernel))))) (by decide +kernel)
theorem k_ml_Law_22 : Cond.methodLink R_Law 22 y_P_spend ∈ yT := yT_in (List.mem_append_right _ (List.mem_append_right _ (List.mem_append_left _ (List.mem_of_getElem? (i := 142) (by decide +kernel))))) (by decide +kernel)
theorem k_im_P_spend : Cond.instanceMethod y_P_spend ∈ yT := yT_in (List.mem_append_right _ (List.mem_append_right _ (List.mem_append_left _ (List.mem_of_getElem? (i := 143) (by decide +kernel))))) (by decide +kernel)
theorem k_se_P_spend : Cond.selects R_P y_P_spend y_P_spend ∈ yT := yT_in (List.mem_append_right _ (List.mem_append_right _ (List.mem_append_left _ (List.mem_of_getElem? (i := 144) (by decide +kernel))))) (by decide +kernel)
theorem k_co_P_spend : Cond.code y_P_spend b_P_spend 4 (some .boolean) ∈ yT := yT_in (List.mem_append_right _ (List.mem_append_right _ (List.mem_append_left _ (List.mem_of_getElem? (i := 145) (by decide +kernel))))) (by decide +kernel)
theorem k_ml_P_74 : Cond.methodLink R_P 74 y_P_finds ∈ yT := yT_in (List.mem_append_right _ (List.mem_append_right _ (List.mem_append_left _ (List.mem_of_getElem? (i := 146) (by decide +kernel))))) (by decide +kernel)
theorem k_im_P_finds : Cond.instanceMethod y_P_finds ∈ yT := yT_in (List.mem_append_right _ (List.mem_append_right _ (List.mem_append_left _ (List.mem_of_getElem? (i := 148) (by decide +kernel))))) (by decide +kernel)
theorem k_co_P_finds : Cond.code y_P_finds b_P_finds 3 (some .boolean) ∈ yT := yT_in (List.mem_append_right _ (List.mem_append_right _ (List.mem_append_left _ (List.mem_of_getElem? (i := 149) (by decide +kernel))))) (by decide +kernel)
theorem k_ml_P_91 : Cond.methodLink R_P 91 y_P_isKey ∈ yT := yT_in (List.mem_append_right _ (List.mem_append_right _ (List.mem_append_left _ (List.mem_of_getElem? (i := 150) (by decide +kernel))))) (by decide +kernel)
theorem k_im_P_isKey : Cond.instanceMethod y_P_isKey ∈ yT := yT_in (List.mem_append_right _ (List.mem_append_right _ (List.mem_append_left _ (List.mem_of_getElem? (i := 152) (by decide +kernel))))) (by decide +kernel)
theorem k_co_P_isKey : Cond.code y_P_isKey b_P_isKey 2 (some .boolean) ∈ yT := yT_in (List.mem_append_right _ (List.mem_append_right _ (List.mem_append_left _ (List.mem_of_getElem? (i := 153) (by decide +kernel))))) (by decide +kernel)
theorem k_ml_P_85 : Cond.methodLink R_P 85 y_Spend_fill ∈ yT := yT_in (List.mem_append_right _ (List.mem_append_right _ (List.mem_append_left _ (List.mem_of_getElem? (i := 154) (by decide +kernel))))) (by decide +kernel)
theorem k_im_Spend_fill : Cond.instanceMethod y_Spend_fill ∈ yT := yT_in (List.mem_append_right _ (List.mem_append_right _ (List.mem_append_left _ (List.mem_of_getElem? (i := 155) (by decide +kernel))))) (by decide +kernel)
theorem k_se_Spend_fill : Cond.selects R_Spend y_Spend_fill y_Spend_fill ∈ yT := yT_in (List.mem_append_right _ (List.mem_append_right _ (List.mem_append_left _ (List.mem_of_getElem? (i := 156) (by decide +kernel))))) (by decide +kernel)
theorem k_co_Spend_fill : Cond.code y_Spend_fill b_Spend_fill 6 (Option.none : Option Jvm.ClassFile.FieldType) ∈ yT := yT_in (List.mem_append_right _ (List.mem_append_right _ (List.mem_append_left _ (List.mem_of_getElem? (i := 157) (by decide +kernel))))) (by decide +kernel)
theorem k_ml_Spend_47 : Cond.methodLink R_Spend 47 y_Tree_root ∈ yT := yT_in (List.mem_append_right _ (List.mem_append_right _ (List.mem_append_left _ (List.mem_of_getElem? (i := 158) (by decide +kernel))))) (by decide +kernel)
theorem k_ml_Spend_56 : Cond.methodLink R_Spend 56 y_Tree_copyPath ∈ yT := yT_in (List.mem_append_right _ (List.mem_append_right _ (List.mem_append_left _ (List.mem_of_getElem? (i := 159) (by decide +kernel))))) (by decide +kernel)
theorem k_im_Tree_copyPath : Cond.instanceMethod y_Tree_copyPath ∈ yT := yT_in (List.mem_append_right _ (List.mem_append_right _ (List.mem_append_left _ (List.mem_of_getElem? (i := 160) (by decide +kernel))))) (by decide +kernel)
theorem k_se_Tree_copyPath : Cond.selects R_Tree y_Tree_copyPath y_Tree_copyPath ∈ yT := yT_in (List.mem_append_right _ (List.mem_append_right _ (List.mem_append_left _ (List.mem_of_getElem? (i := 161) (by decide +kernel))))) (by decide +kernel)
theorem k_co_Tree_copyPath : Cond.code y_Tree_copyPath b_Tree_copyPath 4 (Option.none : Option Jvm.ClassFile.FieldType) ∈ yT := yT_in (List.mem_append_right _ (List.mem_append_right _ (List.mem_append_left _ (List.mem_of_getElem? (i := 162) (by decide +kernel))))) (by decide +kernel)
theorem k_ml_Spend_63 : Cond.methodLink R_Spend 63 y_Bases_cover ∈ yT := yT_in (List.mem_append_right _ (List.mem_append_right _ (List.mem_append_left _ (List.mem_of_getElem? (i := 163) (by decide +kernel))))) (by decide +kernel)
theorem k_im_Bases_cover : Cond.instanceMethod y_Bases_cover ∈ yT := yT_in (List.mem_append_right _ (List.mem_append_right _ (List.mem_append_left _ (List.mem_of_getElem? (i := 164) (by decide +kernel))))) (by decide +kernel)
theorem k_se_Bases_cover : Cond.selects R_Bases y_Bases_cover y_Bases_cover ∈ yT := yT_in (List.mem_append_right _ (List.mem_append_right _ (List.mem_append_left _ (List.mem_of_getElem? (i := 165) (by decide +kernel))))) (by decide +kernel)
theorem k_co_Bases_cover : Cond.code y_Bases_cover b_Bases_cover 3 (some .int) ∈ yT := yT_in (List.mem_append_right _ (List.mem_append_right _ (List.mem_append_left _ (List.mem_of_getElem? (i := 166) (by decide +kernel))))) (by decide +kernel)
theorem k_ml_Law_27 : Cond.methodLink R_Law 27 y_P_output ∈ yT := yT_in (List.mem_append_right _ (List.mem_append_right _ (List.mem_append_left _ (List.mem_of_getElem? (i := 167) (by decide +kernel))))) (by decide +kernel)
theorem k_im_P_output : Cond.instanceMethod y_P_output ∈ yT := yT_in (List.mem_append_right _ (List.mem_append_right _ (List.mem_append_left _ (List.mem_of_getElem? (i := 168) (by decide +kernel))))) (by decide +kernel)
theorem k_se_P_output : Cond.selects R_P y_P_output y_P_output ∈ yT := yT_in (List.mem_append_right _ (List.mem_append_right _ (List.mem_append_left _ (List.mem_of_getElem? (i := 169) (by decide +kernel))))) (by decide +kernel)
theorem k_co_P_output : Cond.code y_P_output b_P_output 7 (some .boolean) ∈ yT := yT_in (List.mem_append_right _ (List.mem_append_right _ (List.mem_append_left _ (List.mem_of_getElem? (i := 170) (by decide +kernel))))) (by decide +kernel)
theorem k_ml_P_94 : Cond.methodLink R_P 94 y_P_isValue ∈ yT := yT_in (List.mem_append_right _ (List.mem_append_right _ (List.mem_append_left _ (List.mem_of_getElem? (i := 171) (by decide +kernel))))) (by decide +kernel)
theorem k_st_P_isValue : Cond.static y_P_isValue ∈ yT := yT_in (List.mem_append_right _ (List.mem_append_right _ (List.mem_append_left _ (List.mem_of_getElem? (i := 172) (by decide +kernel))))) (by decide +kernel)
theorem k_co_P_isValue : Cond.code y_P_isValue b_P_isValue 1 (some .boolean) ∈ yT := yT_in (List.mem_append_right _ (List.mem_append_right _ (List.mem_append_left _ (List.mem_of_getElem? (i := 173) (by decide +kernel))))) (by decide +kernel)
theorem k_ml_P_107 : Cond.methodLink R_P 107 y_Output_fill ∈ yT := yT_in (List.mem_append_right _ (List.mem_append_right _ (List.mem_append_left _ (List.mem_of_getElem? (i := 174) (by decide +kernel))))) (by decide +kernel)
theorem k_im_Output_fill : Cond.instanceMethod y_Output_fill ∈ yT := yT_in (List.mem_append_right _ (List.mem_append_right _ (List.mem_append_left _ (List.mem_of_getElem? (i := 175) (by decide +kernel))))) (by decide +kernel)
theorem k_se_Output_fill : Cond.selects R_Output y_Output_fill y_Output_fill ∈ yT := yT_in (List.mem_append_right _ (List.mem_append_right _ (List.mem_append_left _ (List.mem_of_getElem? (i := 176) (by decide +kernel))))) (by decide +kernel)
theorem k_co_Output_fill : Cond.code y_Output_fill b_Output_fill 5 (Option.none : Option Jvm.ClassFile.FieldType) ∈ yT := yT_in (List.mem_append_right _ (List.mem_append_right _ (List.mem_append_left _ (List.mem_of_getElem? (i := 177) (by decide +kernel))))) (by decide +kernel)
theorem k_ml_Output_21 : Cond.methodLink R_Output 21 y_Bases_commitment ∈ yT := yT_in (List.mem_append_right _ (List.mem_append_right _ (List.mem_append_left _ (List.mem_of_getElem? (i := 178) (by decide +kernel))))) (by decide +kernel)
theorem k_ml_P_112 : Cond.methodLink R_P 112 y_Output_seal ∈ yT := yT_in (List.mem_append_right _ (List.mem_append_right _ (List.mem_append_left _ (List.mem_of_getElem? (i := 179) (by decide +kernel))))) (by decide +kernel)
theorem k_im_Output_seal : Cond.instanceMethod y_Output_seal ∈ yT := yT_in (List.mem_append_right _ (List.mem_append_right _ (List.mem_append_left _ (List.mem_of_getElem? (i := 180) (by decide +kernel))))) (by decide +kernel)
theorem k_se_Output_seal : Cond.selects R_Output y_Output_seal y_Output_seal ∈ yT := yT_in (List.mem_append_right _ (List.mem_append_right _ (List.mem_append_left _ (List.mem_of_getElem? (i := 181) (by decide +kernel))))) (by decide +kernel)
theorem k_co_Output_seal : Cond.code y_Output_seal b_Output_seal 5 (Option.none : Option Jvm.ClassFile.FieldType) ∈ yT := yT_in (List.mem_append_right _ (List.mem_append_right _ (List.mem_append_left _ (List.mem_of_getElem? (i := 182) (by decide +kernel))))) (by decide +kernel)
theorem k_ml_Output_29 : Cond.methodLink R_Output 29 y_Curve_multiple ∈ yT := yT_in (List.mem_append_right _ (List.mem_append_right _ (List.mem_append_left _ (List.mem_of_getElem? (i := 183) (by decide +kernel))))) (by decide +kernel)
theorem k_ml_Output_39 : Cond.methodLink R_Output 39 y_Base_times ∈ yT := yT_in (List.mem_append_right _ (List.mem_append_right _ (List.mem_append_left _ (List.mem_of_getElem? (i := 184) (by decide +kernel))))) (by decide +kernel)
theorem k_ml_Output_48 : Cond.methodLink R_Output 48 y_Curve_coordinate ∈ yT := yT_in (List.mem_append_right _ (List.mem_append_right _ (List.mem_append_left _ (List.mem_of_getElem? (i := 185) (by decide +kernel))))) (by decide +kernel)
theorem k_ml_Output_60 : Cond.methodLink R_Output 60 y_Bases_cover ∈ yT := yT_in (List.mem_append_right _ (List.mem_append_right _ (List.mem_append_left _ (List.mem_of_getElem? (i := 186) (by decide +kernel))))) (by decide +kernel)
theorem k_ml_Law_32 : Cond.methodLink R_Law 32 y_P_balance ∈ yT := yT_in (List.mem_append_right _ (List.mem_append_right _ (List.mem_append_left _ (List.mem_of_getElem? (i := 187) (by decide +kernel))))) (by decide +kernel)
theorem k_im_P_balance : Cond.instanceMethod y_P_balance ∈ yT := yT_in (List.mem_append_right _ (List.mem_append_right _ (List.mem_append_left _ (List.mem_of_getElem? (i := 188) (by decide +kernel))))) (by decide +kernel)
theorem k_se_P_balance : Cond.selects R_P y_P_balance y_P_balance ∈ yT := yT_in (List.mem_append_right _ (List.mem_append_right _ (List.mem_append_left _ (List.mem_of_getElem? (i := 189) (by decide +kernel))))) (by decide +kernel)
theorem k_co_P_balance : Cond.code y_P_balance b_P_balance 2 (some .boolean) ∈ yT := yT_in (List.mem_append_right _ (List.mem_append_right _ (List.mem_append_left _ (List.mem_of_getElem? (i := 190) (by decide +kernel))))) (by decide +kernel)
theorem k_ml_Law_37 : Cond.methodLink R_Law 37 y_P_alter ∈ yT := yT_in (List.mem_append_right _ (List.mem_append_right _ (List.mem_append_left _ (List.mem_of_getElem? (i := 191) (by decide +kernel))))) (by decide +kernel)
theorem k_im_P_alter : Cond.instanceMethod y_P_alter ∈ yT := yT_in (List.mem_append_right _ (List.mem_append_right _ (List.mem_append_left _ (List.mem_of_getElem? (i := 192) (by decide +kernel))))) (by decide +kernel)
theorem k_se_P_alter : Cond.selects R_P y_P_alter y_P_alter ∈ yT := yT_in (List.mem_append_right _ (List.mem_append_right _ (List.mem_append_left _ (List.mem_of_getElem? (i := 193) (by decide +kernel))))) (by decide +kernel)
theorem k_co_P_alter : Cond.code y_P_alter b_P_alter 3 (some .boolean) ∈ yT := yT_in (List.mem_append_right _ (List.mem_append_right _ (List.mem_append_left _ (List.mem_of_getElem? (i := 194) (by decide +kernel))))) (by decide +kernel)
theorem k_ml_P_119 : Cond.methodLink R_P 119 y_Spend_change ∈ yT := yT_in (List.mem_append_right _ (List.mem_append_right _ (List.mem_append_left _ (List.mem_of_getElem? (i := 195) (by decide +kernel))))) (by decide +kernel)
theorem k_im_Spend_change : Cond.instanceMethod y_Spend_change ∈ yT := yT_in (List.mem_append_right _ (List.mem_append_right _ (List.mem_append_left _ (List.mem_of_getElem? (i := 196) (by decide +kernel))))) (by decide +kernel)
theorem k_se_Spend_change : Cond.selects R_Spend y_Spend_change y_Spend_change ∈ yT := yT_in (List.mem_append_right _ (List.mem_append_right _ (List.mem_append_left _ (List.mem_of_getElem? (i := 197) (by decide +kernel))))) (by decide +kernel)
theorem k_co_Spend_change : Cond.code y_Spend_change b_Spend_change 4 (some .boolean) ∈ yT := yT_in (List.mem_append_right _ (List.mem_append_right _ (List.mem_append_left _ (List.mem_of_getElem? (i := 198) (by decide +kernel))))) (by decide +kernel)
theorem k_st_P_isFieldNumber : Cond.static y_P_isFieldNumber ∈ yT := yT_in (List.mem_append_right _ (List.mem_append_right _ (List.mem_append_left _ (List.mem_of_getElem? (i := 201) (by decide +kernel))))) (by decide +kernel)
theorem k_co_P_isFieldNumber : Cond.code y_P_isFieldNumber b_P_isFieldNumber 1 (some .boolean) ∈ yT := yT_in (List.mem_append_right _ (List.mem_append_right _ (List.mem_append_left _ (List.mem_of_getElem? (i := 202) (by decide +kernel))))) (by decide +kernel)
theorem k_ml_P_123 : Cond.methodLink R_P 123 y_Output_change ∈ yT := yT_in (List.mem_append_right _ (List.mem_append_right _ (List.mem_append_left _ (List.mem_of_getElem? (i := 203) (by decide +kernel))))) (by decide +kernel)
theorem k_im_Output_change : Cond.instanceMethod y_Output_change ∈ yT := yT_in (List.mem_append_right _ (List.mem_append_right _ (List.mem_append_left _ (List.mem_of_getElem? (i := 204) (by decide +kernel))))) (by decide +kernel)
theorem k_se_Output_change : Cond.selects R_Output y_Output_change y_Output_change ∈ yT := yT_in (List.mem_append_right _ (List.mem_append_right _ (List.mem_append_left _ (List.mem_of_getElem? (i := 205) (by decide +kernel))))) (by decide +kernel)
theorem k_co_Output_change : Cond.code y_Output_change b_Output_change 3 (some .boolean) ∈ yT := yT_in (List.mem_append_right _ (List.mem_append_right _ (List.mem_append_left _ (List.mem_of_getElem? (i := 206) (by decide +kernel))))) (by decide +kernel)
theorem k_ml_Law_42 : Cond.methodLink R_Law 42 y_P_connect ∈ yT := yT_in (List.mem_append_right _ (List.mem_append_right _ (List.mem_append_left _ (List.mem_of_getElem? (i := 209) (by decide +kernel))))) (by decide +kernel)
theorem k_im_P_connect : Cond.instanceMethod y_P_connect ∈ yT := yT_in (List.mem_append_right _ (List.mem_append_right _ (List.mem_append_left _ (List.mem_of_getElem? (i := 210) (by decide +kernel))))) (by decide +kernel)
theorem k_se_P_connect : Cond.selects R_P y_P_connect y_P_connect ∈ yT := yT_in (List.mem_append_right _ (List.mem_append_right _ (List.mem_append_left _ (List.mem_of_getElem? (i := 211) (by decide +kernel))))) (by decide +kernel)
theorem k_co_P_connect : Cond.code y_P_connect b_P_connect 3 (some .int) ∈ yT := yT_in (List.mem_append_right _ (List.mem_append_right _ (List.mem_append_left _ (List.mem_of_getElem? (i := 212) (by decide +kernel))))) (by decide +kernel)
theorem k_ml_P_128 : Cond.methodLink R_P 128 y_P_judgeSpends ∈ yT := yT_in (List.mem_append_right _ (List.mem_append_right _ (List.mem_append_left _ (List.mem_of_getElem? (i := 213) (by decide +kernel))))) (by decide +kernel)
theorem k_im_P_judgeSpends : Cond.instanceMethod y_P_judgeSpends ∈ yT := yT_in (List.mem_append_right _ (List.mem_append_right _ (List.mem_append_left _ (List.mem_of_getElem? (i := 215) (by decide +kernel))))) (by decide +kernel)
theorem k_co_P_judgeSpends : Cond.code y_P_judgeSpends b_P_judgeSpends 3 (some .int) ∈ yT := yT_in (List.mem_append_right _ (List.mem_append_right _ (List.mem_append_left _ (List.mem_of_getElem? (i := 216) (by decide +kernel))))) (by decide +kernel)
theorem k_ml_P_203 : Cond.methodLink R_P 203 y_Chain_hasRoot ∈ yT := yT_in (List.mem_append_right _ (List.mem_append_right _ (List.mem_append_left _ (List.mem_of_getElem? (i := 217) (by decide +kernel))))) (by decide +kernel)
theorem k_im_Chain_hasRoot : Cond.instanceMethod y_Chain_hasRoot ∈ yT := yT_in (List.mem_append_right _ (List.mem_append_right _ (List.mem_append_left _ (List.mem_of_getElem? (i := 218) (by decide +kernel))))) (by decide +kernel)
theorem k_se_Chain_hasRoot : Cond.selects R_Chain y_Chain_hasRoot y_Chain_hasRoot ∈ yT := yT_in (List.mem_append_right _ (List.mem_append_right _ (List.mem_append_left _ (List.mem_of_getElem? (i := 219) (by decide +kernel))))) (by decide +kernel)
theorem k_co_Chain_hasRoot : Cond.code y_Chain_hasRoot b_Chain_hasRoot 4 (some .boolean) ∈ yT := yT_in (List.mem_append_right _ (List.mem_append_right _ (List.mem_append_left _ (List.mem_of_getElem? (i := 220) (by decide +kernel))))) (by decide +kernel)
theorem k_ml_P_206 : Cond.methodLink R_P 206 y_Spend_isProven ∈ yT := yT_in (List.mem_append_right _ (List.mem_append_right _ (List.mem_append_left _ (List.mem_of_getElem? (i := 221) (by decide +kernel))))) (by decide +kernel)
theorem k_im_Spend_isProven : Cond.instanceMethod y_Spend_isProven ∈ yT := yT_in (List.mem_append_right _ (List.mem_append_right _ (List.mem_append_left _ (List.mem_of_getElem? (i := 222) (by decide +kernel))))) (by decide +kernel)
theorem k_se_Spend_isProven : Cond.selects R_Spend y_Spend_isProven y_Spend_isProven ∈ yT := yT_in (List.mem_append_right _ (List.mem_append_right _ (List.mem_append_left _ (List.mem_of_getElem? (i := 223) (by decide +kernel))))) (by decide +kernel)
theorem k_co_Spend_isProven : Cond.code y_Spend_isProven b_Spend_isProven 7 (some .boolean) ∈ yT := yT_in (List.mem_append_right _ (List.mem_append_right _ (List.mem_append_left _ (List.mem_of_getElem? (i := 224) (by decide +kernel))))) (by decide +kernel)
theorem k_ml_Spend_78 : Cond.methodLink R_Spend 78 y_Bases_commitment ∈ yT := yT_in (List.mem_append_right _ (List.mem_append_right _ (List.mem_append_left _ (List.mem_of_getElem? (i := 225) (by decide +kernel))))) (by decide +kernel)
theorem k_ml_Spend_82 : Cond.methodLink R_Spend 82 y_Bases_hash ∈ yT := yT_in (List.mem_append_right _ (List.mem_append_right _ (List.mem_append_left _ (List.mem_of_getElem? (i := 226) (by decide +kernel))))) (by decide +kernel)
theorem k_ml_Spend_85 : Cond.methodLink R_Spend 85 y_Bases_nullifier ∈ yT := yT_in (List.mem_append_right _ (List.mem_append_right _ (List.mem_append_left _ (List.mem_of_getElem? (i := 227) (by decide +kernel))))) (by decide +kernel)
theorem k_ml_P_166 : Cond.methodLink R_P 166 y_Chain_reveals ∈ yT := yT_in (List.mem_append_right _ (List.mem_append_right _ (List.mem_append_left _ (List.mem_of_getElem? (i := 228) (by decide +kernel))))) (by decide +kernel)
theorem k_im_Chain_reveals : Cond.instanceMethod y_Chain_reveals ∈ yT := yT_in (List.mem_append_right _ (List.mem_append_right _ (List.mem_append_left _ (List.mem_of_getElem? (i := 229) (by decide +kernel))))) (by decide +kernel)
theorem k_se_Chain_reveals : Cond.selects R_Chain y_Chain_reveals y_Chain_reveals ∈ yT := yT_in (List.mem_append_right _ (List.mem_append_right _ (List.mem_append_left _ (List.mem_of_getElem? (i := 230) (by decide +kernel))))) (by decide +kernel)
theorem k_co_Chain_reveals : Cond.code y_Chain_reveals b_Chain_reveals 4 (some .boolean) ∈ yT := yT_in (List.mem_append_right _ (List.mem_append_right _ (List.mem_append_left _ (List.mem_of_getElem? (i := 231) (by decide +kernel))))) (by decide +kernel)
theorem k_ml_P_213 : Cond.methodLink R_P 213 y_Draft_repeatsNullifier ∈ yT := yT_in (List.mem_append_right _ (List.mem_append_right _ (List.mem_append_left _ (List.mem_of_getElem? (i := 232) (by decide +kernel))))) (by decide +kernel)
theorem k_im_Draft_repeatsNullifier : Cond.instanceMethod y_Draft_repeatsNullifier ∈ yT := yT_in (List.mem_append_right _ (List.mem_append_right _ (List.mem_append_left _ (List.mem_of_getElem? (i := 233) (by decide +kernel))))) (by decide +kernel)
theorem k_se_Draft_repeatsNullifier : Cond.selects R_Draft y_Draft_repeatsNullifier y_Draft_repeatsNullifier ∈ yT := yT_in (List.mem_append_right _ (List.mem_append_right _ (List.mem_append_left _ (List.mem_of_getElem? (i := 234) (by decide +kernel))))) (by decide +kernel)
theorem k_co_Draft_repeatsNullifier : Cond.code y_Draft_repeatsNullifier b_Draft_repeatsNullifier 3 (some .boolean) ∈ yT := yT_in (List.mem_append_right _ (List.mem_append_right _ (List.mem_append_left _ (List.mem_of_getElem? (i := 235) (by decide +kernel))))) (by decide +kernel)
theorem k_ml_P_131 : Cond.methodLink R_P 131 y_P_judgeOutputs ∈ yT := yT_in (List.mem_append_right _ (List.mem_append_right _ (List.mem_append_left _ (List.mem_of_getElem? (i := 236) (by decide +kernel))))) (by decide +kernel)
theorem k_im_P_judgeOutputs : Cond.instanceMethod y_P_judgeOutputs ∈ yT := yT_in (List.mem_append_right _ (List.mem_append_right _ (List.mem_append_left _ (List.mem_of_getElem? (i := 238) (by decide +kernel))))) (by decide +kernel)
theorem k_co_P_judgeOutputs : Cond.code y_P_judgeOutputs b_P_judgeOutputs 2 (some .int) ∈ yT := yT_in (List.mem_append_right _ (List.mem_append_right _ (List.mem_append_left _ (List.mem_of_getElem? (i := 239) (by decide +kernel))))) (by decide +kernel)
theorem k_ml_P_216 : Cond.methodLink R_P 216 y_Output_isProven ∈ yT := yT_in (List.mem_append_right _ (List.mem_append_right _ (List.mem_append_right _ (List.mem_append_left _ (List.mem_of_getElem? (i := 0) (by decide +kernel)))))) (by decide +kernel)
theorem k_im_Output_isProven : Cond.instanceMethod y_Output_isProven ∈ yT := yT_in (List.mem_append_right _ (List.mem_append_right _ (List.mem_append_right _ (List.mem_append_left _ (List.mem_of_getElem? (i := 1) (by decide +kernel)))))) (by decide +kernel)
theorem k_se_Output_isProven : Cond.selects R_Output y_Output_isProven y_Output_isProven ∈ yT := yT_in (List.mem_append_right _ (List.mem_append_right _ (List.mem_append_right _ (List.mem_append_left _ (List.mem_of_getElem? (i := 2) (by decide +kernel)))))) (by decide +kernel)
theorem k_co_Output_isProven : Cond.code y_Output_isProven b_Output_isProven 2 (some .boolean) ∈ yT := yT_in (List.mem_append_right _ (List.mem_append_right _ (List.mem_append_right _ (List.mem_append_left _ (List.mem_of_getElem? (i := 3) (by decide +kernel)))))) (by decide +kernel)
theorem k_ml_P_134 : Cond.methodLink R_P 134 y_P_judgeWhole ∈ yT := yT_in (List.mem_append_right _ (List.mem_append_right _ (List.mem_append_right _ (List.mem_append_left _ (List.mem_of_getElem? (i := 4) (by decide +kernel)))))) (by decide +kernel)
theorem k_im_P_judgeWhole : Cond.instanceMethod y_P_judgeWhole ∈ yT := yT_in (List.mem_append_right _ (List.mem_append_right _ (List.mem_append_right _ (List.mem_append_left _ (List.mem_of_getElem? (i := 6) (by decide +kernel)))))) (by decide +kernel)
theorem k_co_P_judgeWhole : Cond.code y_P_judgeWhole b_P_judgeWhole 1 (some .int) ∈ yT := yT_in (List.mem_append_right _ (List.mem_append_right _ (List.mem_append_right _ (List.mem_append_left _ (List.mem_of_getElem? (i := 7) (by decide +kernel)))))) (by decide +kernel)
theorem k_ml_P_217 : Cond.methodLink R_P 217 y_Draft_excess ∈ yT := yT_in (List.mem_append_right _ (List.mem_append_right _ (List.mem_append_right _ (List.mem_append_left _ (List.mem_of_getElem? (i := 8) (by decide +kernel)))))) (by decide +kernel)
theorem k_im_Draft_excess : Cond.instanceMethod y_Draft_excess ∈ yT := yT_in (List.mem_append_right _ (List.mem_append_right _ (List.mem_append_right _ (List.mem_append_left _ (List.mem_of_getElem? (i := 9) (by decide +kernel)))))) (by decide +kernel)
theorem k_se_Draft_excess : Cond.selects R_Draft y_Draft_excess y_Draft_excess ∈ yT := yT_in (List.mem_append_right _ (List.mem_append_right _ (List.mem_append_right _ (List.mem_append_left _ (List.mem_of_getElem? (i := 10) (by decide +kernel)))))) (by decide +kernel)
theorem k_co_Draft_excess : Cond.code y_Draft_excess b_Draft_excess 4 (some .int) ∈ yT := yT_in (List.mem_append_right _ (List.mem_append_right _ (List.mem_append_right _ (List.mem_append_left _ (List.mem_of_getElem? (i := 11) (by decide +kernel)))))) (by decide +kernel)
theorem k_ml_Draft_54 : Cond.methodLink R_Draft 54 y_Base_times ∈ yT := yT_in (List.mem_append_right _ (List.mem_append_right _ (List.mem_append_right _ (List.mem_append_left _ (List.mem_of_getElem? (i := 12) (by decide +kernel)))))) (by decide +kernel)
theorem k_ml_Draft_60 : Cond.methodLink R_Draft 60 y_Curve_negative ∈ yT := yT_in (List.mem_append_right _ (List.mem_append_right _ (List.mem_append_right _ (List.mem_append_left _ (List.mem_of_getElem? (i := 13) (by decide +kernel)))))) (by decide +kernel)
theorem k_st_Curve_negative : Cond.static y_Curve_negative ∈ yT := yT_in (List.mem_append_right _ (List.mem_append_right _ (List.mem_append_right _ (List.mem_append_left _ (List.mem_of_getElem? (i := 14) (by decide +kernel)))))) (by decide +kernel)
theorem k_co_Curve_negative : Cond.code y_Curve_negative b_Curve_negative 1 (some .int) ∈ yT := yT_in (List.mem_append_right _ (List.mem_append_right _ (List.mem_append_right _ (List.mem_append_left _ (List.mem_of_getElem? (i := 15) (by decide +kernel)))))) (by decide +kernel)
theorem k_ml_Draft_68 : Cond.methodLink R_Draft 68 y_Curve_sum ∈ yT := yT_in (List.mem_append_right _ (List.mem_append_right _ (List.mem_append_right _ (List.mem_append_left _ (List.mem_of_getElem? (i := 16) (by decide +kernel)))))) (by decide +kernel)
theorem k_ml_P_225 : Cond.methodLink R_P 225 y_Draft_sealScalar ∈ yT := yT_in (List.mem_append_right _ (List.mem_append_right _ (List.mem_append_right _ (List.mem_append_left _ (List.mem_of_getElem? (i := 17) (by decide +kernel)))))) (by decide +kernel)
theorem k_im_Draft_sealScalar : Cond.instanceMethod y_Draft_sealScalar ∈ yT := yT_in (List.mem_append_right _ (List.mem_append_right _ (List.mem_append_right _ (List.mem_append_left _ (List.mem_of_getElem? (i := 18) (by decide +kernel)))))) (by decide +kernel)
theorem k_se_Draft_sealScalar : Cond.selects R_Draft y_Draft_sealScalar y_Draft_sealScalar ∈ yT := yT_in (List.mem_append_right _ (List.mem_append_right _ (List.mem_append_right _ (List.mem_append_left _ (List.mem_of_getElem? (i := 19) (by decide +kernel)))))) (by decide +kernel)
theorem k_co_Draft_sealScalar : Cond.code y_Draft_sealScalar b_Draft_sealScalar 3 (some .int) ∈ yT := yT_in (List.mem_append_right _ (List.mem_append_right _ (List.mem_append_right _ (List.mem_append_left _ (List.mem_of_getElem? (i := 20) (by decide +kernel)))))) (by decide +kernel)
theorem k_ml_Draft_42 : Cond.methodLink R_Draft 42 y_Math_floorMod ∈ yT := yT_in (List.mem_append_right _ (List.mem_append_right _ (List.mem_append_right _ (List.mem_append_left _ (List.mem_of_getElem? (i := 21) (by decide +kernel)))))) (by decide +kernel)
theorem k_ml_P_228 : Cond.methodLink R_P 228 y_Base_times ∈ yT := yT_in (List.mem_append_right _ (List.mem_append_right _ (List.mem_append_right _ (List.mem_append_left _ (List.mem_of_getElem? (i := 22) (by decide +kernel)))))) (by decide +kernel)
theorem k_ml_P_137 : Cond.methodLink R_P 137 y_Tree_append ∈ yT := yT_in (List.mem_append_right _ (List.mem_append_right _ (List.mem_append_right _ (List.mem_append_left _ (List.mem_of_getElem? (i := 23) (by decide +kernel)))))) (by decide +kernel)
theorem k_im_Tree_append : Cond.instanceMethod y_Tree_append ∈ yT := yT_in (List.mem_append_right _ (List.mem_append_right _ (List.mem_append_right _ (List.mem_append_left _ (List.mem_of_getElem? (i := 24) (by decide +kernel)))))) (by decide +kernel)
theorem k_se_Tree_append : Cond.selects R_Tree y_Tree_append y_Tree_append ∈ yT := yT_in (List.mem_append_right _ (List.mem_append_right _ (List.mem_append_right _ (List.mem_append_left _ (List.mem_of_getElem? (i := 25) (by decide +kernel)))))) (by decide +kernel)
theorem k_co_Tree_append : Cond.code y_Tree_append b_Tree_append 2 (Option.none : Option Jvm.ClassFile.FieldType) ∈ yT := yT_in (List.mem_append_right _ (List.mem_append_right _ (List.mem_append_right _ (List.mem_append_left _ (List.mem_of_getElem? (i := 26) (by decide +kernel)))))) (by decide +kernel)
theorem k_ml_Tree_56 : Cond.methodLink R_Tree 56 y_Tree_setLeaf ∈ yT := yT_in (List.mem_append_right _ (List.mem_append_right _ (List.mem_append_right _ (List.mem_append_left _ (List.mem_of_getElem? (i := 27) (by decide +kernel)))))) (by decide +kernel)
theorem k_im_Tree_setLeaf : Cond.instanceMethod y_Tree_setLeaf ∈ yT := yT_in (List.mem_append_right _ (List.mem_append_right _ (List.mem_append_right _ (List.mem_append_left _ (List.mem_of_getElem? (i := 29) (by decide +kernel)))))) (by decide +kernel)
theorem k_co_Tree_setLeaf : Cond.code y_Tree_setLeaf b_Tree_setLeaf 7 (Option.none : Option Jvm.ClassFile.FieldType) ∈ yT := yT_in (List.mem_append_right _ (List.mem_append_right _ (List.mem_append_right _ (List.mem_append_left _ (List.mem_of_getElem? (i := 30) (by decide +kernel)))))) (by decide +kernel)
theorem k_ml_P_141 : Cond.methodLink R_P 141 y_P_lookAtLatestLeaf ∈ yT := yT_in (List.mem_append_right _ (List.mem_append_right _ (List.mem_append_right _ (List.mem_append_left _ (List.mem_of_getElem? (i := 31) (by decide +kernel)))))) (by decide +kernel)
theorem k_im_P_lookAtLatestLeaf : Cond.instanceMethod y_P_lookAtLatestLeaf ∈ yT := yT_in (List.mem_append_right _ (List.mem_append_right _ (List.mem_append_right _ (List.mem_append_left _ (List.mem_of_getElem? (i := 33) (by decide +kernel)))))) (by decide +kernel)
theorem k_co_P_lookAtLatestLeaf : Cond.code y_P_lookAtLatestLeaf b_P_lookAtLatestLeaf 2 (Option.none : Option Jvm.ClassFile.FieldType) ∈ yT := yT_in (List.mem_append_right _ (List.mem_append_right _ (List.mem_append_right _ (List.mem_append_left _ (List.mem_of_getElem? (i := 34) (by decide +kernel)))))) (by decide +kernel)
theorem k_ml_P_144 : Cond.methodLink R_P 144 y_Chain_append ∈ yT := yT_in (List.mem_append_right _ (List.mem_append_right _ (List.mem_append_right _ (List.mem_append_left _ (List.mem_of_getElem? (i := 35) (by decide +kernel)))))) (by decide +kernel)
theorem k_im_Chain_append : Cond.instanceMethod y_Chain_append ∈ yT := yT_in (List.mem_append_right _ (List.mem_append_right _ (List.mem_append_right _ (List.mem_append_left _ (List.mem_of_getElem? (i := 36) (by decide +kernel)))))) (by decide +kernel)
theorem k_se_Chain_append : Cond.selects R_Chain y_Chain_append y_Chain_append ∈ yT := yT_in (List.mem_append_right _ (List.mem_append_right _ (List.mem_append_right _ (List.mem_append_left _ (List.mem_of_getElem? (i := 37) (by decide +kernel)))))) (by decide +kernel)
theorem k_co_Chain_append : Cond.code y_Chain_append b_Chain_append 5 (Option.none : Option Jvm.ClassFile.FieldType) ∈ yT := yT_in (List.mem_append_right _ (List.mem_append_right _ (List.mem_append_right _ (List.mem_append_left _ (List.mem_of_getElem? (i := 38) (by decide +kernel)))))) (by decide +kernel)
theorem k_ml_Law_47 : Cond.methodLink R_Law 47 y_P_disconnect ∈ yT := yT_in (List.mem_append_right _ (List.mem_append_right _ (List.mem_append_right _ (List.mem_append_left _ (List.mem_of_getElem? (i := 39) (by decide +kernel)))))) (by decide +kernel)
theorem k_im_P_disconnect : Cond.instanceMethod y_P_disconnect ∈ yT := yT_in (List.mem_append_right _ (List.mem_append_right _ (List.mem_append_right _ (List.mem_append_left _ (List.mem_of_getElem? (i := 40) (by decide +kernel)))))) (by decide +kernel)
theorem k_se_P_disconnect : Cond.selects R_P y_P_disconnect y_P_disconnect ∈ yT := yT_in (List.mem_append_right _ (List.mem_append_right _ (List.mem_append_right _ (List.mem_append_left _ (List.mem_of_getElem? (i := 41) (by decide +kernel)))))) (by decide +kernel)
theorem k_co_P_disconnect : Cond.code y_P_disconnect b_P_disconnect 3 (some .int) ∈ yT := yT_in (List.mem_append_right _ (List.mem_append_right _ (List.mem_append_right _ (List.mem_append_left _ (List.mem_of_getElem? (i := 42) (by decide +kernel)))))) (by decide +kernel)
theorem k_ml_P_150 : Cond.methodLink R_P 150 y_Chain_removeLatest ∈ yT := yT_in (List.mem_append_right _ (List.mem_append_right _ (List.mem_append_right _ (List.mem_append_left _ (List.mem_of_getElem? (i := 43) (by decide +kernel)))))) (by decide +kernel)
theorem k_im_Chain_removeLatest : Cond.instanceMethod y_Chain_removeLatest ∈ yT := yT_in (List.mem_append_right _ (List.mem_append_right _ (List.mem_append_right _ (List.mem_append_left _ (List.mem_of_getElem? (i := 44) (by decide +kernel)))))) (by decide +kernel)
theorem k_se_Chain_removeLatest : Cond.selects R_Chain y_Chain_removeLatest y_Chain_removeLatest ∈ yT := yT_in (List.mem_append_right _ (List.mem_append_right _ (List.mem_append_right _ (List.mem_append_left _ (List.mem_of_getElem? (i := 45) (by decide +kernel)))))) (by decide +kernel)
theorem k_co_Chain_removeLatest : Cond.code y_Chain_removeLatest b_Chain_removeLatest 1 (some .int) ∈ yT := yT_in (List.mem_append_right _ (List.mem_append_right _ (List.mem_append_right _ (List.mem_append_left _ (List.mem_of_getElem? (i := 46) (by decide +kernel)))))) (by decide +kernel)
theorem k_ml_P_153 : Cond.methodLink R_P 153 y_Tree_removeLatest ∈ yT := yT_in (List.mem_append_right _ (List.mem_append_right _ (List.mem_append_right _ (List.mem_append_left _ (List.mem_of_getElem? (i := 47) (by decide +kernel)))))) (by decide +kernel)
theorem k_im_Tree_removeLatest : Cond.instanceMethod y_Tree_removeLatest ∈ yT := yT_in (List.mem_append_right _ (List.mem_append_right _ (List.mem_append_right _ (List.mem_append_left _ (List.mem_of_getElem? (i := 48) (by decide +kernel)))))) (by decide +kernel)
theorem k_se_Tree_removeLatest : Cond.selects R_Tree y_Tree_removeLatest y_Tree_removeLatest ∈ yT := yT_in (List.mem_append_right _ (List.mem_append_right _ (List.mem_append_right _ (List.mem_append_left _ (List.mem_of_getElem? (i := 49) (by decide +kernel)))))) (by decide +kernel)
theorem k_co_Tree_removeLatest : Cond.code y_Tree_removeLatest b_Tree_removeLatest 1 (Option.none : Option Jvm.ClassFile.FieldType) ∈ yT := yT_in (List.mem_append_right _ (List.mem_append_right _ (List.mem_append_right _ (List.mem_append_left _ (List.mem_of_getElem? (i := 50) (by decide +kernel)))))) (by decide +kernel)
theorem k_ml_Law_51 : Cond.methodLink R_Law 51 y_P_blocks ∈ yT := yT_in (List.mem_append_right _ (List.mem_append_right _ (List.mem_append_right _ (List.mem_append_left _ (List.mem_of_getElem? (i := 51) (by decide +kernel)))))) (by decide +kernel)
theorem k_im_P_blocks : Cond.instanceMethod y_P_blocks ∈ yT := yT_in (List.mem_append_right _ (List.mem_append_right _ (List.mem_append_right _ (List.mem_append_left _ (List.mem_of_getElem? (i := 52) (by decide +kernel)))))) (by decide +kernel)
theorem k_se_P_blocks : Cond.selects R_P y_P_blocks y_P_blocks ∈ yT := yT_in (List.mem_append_right _ (List.mem_append_right _ (List.mem_append_right _ (List.mem_append_left _ (List.mem_of_getElem? (i := 53) (by decide +kernel)))))) (by decide +kernel)
theorem k_co_P_blocks : Cond.code y_P_blocks b_P_blocks 1 (some .int) ∈ yT := yT_in (List.mem_append_right _ (List.mem_append_right _ (List.mem_append_right _ (List.mem_append_left _ (List.mem_of_getElem? (i := 54) (by decide +kernel)))))) (by decide +kernel)
theorem k_ml_Law_55 : Cond.methodLink R_Law 55 y_P_leaves ∈ yT := yT_in (List.mem_append_right _ (List.mem_append_right _ (List.mem_append_right _ (List.mem_append_left _ (List.mem_of_getElem? (i := 55) (by decide +kernel)))))) (by decide +kernel)
theorem k_im_P_leaves : Cond.instanceMethod y_P_leaves ∈ yT := yT_in (List.mem_append_right _ (List.mem_append_right _ (List.mem_append_right _ (List.mem_append_left _ (List.mem_of_getElem? (i := 56) (by decide +kernel)))))) (by decide +kernel)
theorem k_se_P_leaves : Cond.selects R_P y_P_leaves y_P_leaves ∈ yT := yT_in (List.mem_append_right _ (List.mem_append_right _ (List.mem_append_right _ (List.mem_append_left _ (List.mem_of_getElem? (i := 57) (by decide +kernel)))))) (by decide +kernel)
theorem k_co_P_leaves : Cond.code y_P_leaves b_P_leaves 1 (some .int) ∈ yT := yT_in (List.mem_append_right _ (List.mem_append_right _ (List.mem_append_right _ (List.mem_append_left _ (List.mem_of_getElem? (i := 58) (by decide +kernel)))))) (by decide +kernel)
theorem k_ml_Law_59 : Cond.methodLink R_Law 59 y_P_node ∈ yT := yT_in (List.mem_append_right _ (List.mem_append_right _ (List.mem_append_right _ (List.mem_append_left _ (List.mem_of_getElem? (i := 59) (by decide +kernel)))))) (by decide +kernel)
theorem k_im_P_node : Cond.instanceMethod y_P_node ∈ yT := yT_in (List.mem_append_right _ (List.mem_append_right _ (List.mem_append_right _ (List.mem_append_left _ (List.mem_of_getElem? (i := 60) (by decide +kernel)))))) (by decide +kernel)
theorem k_se_P_node : Cond.selects R_P y_P_node y_P_node ∈ yT := yT_in (List.mem_append_right _ (List.mem_append_right _ (List.mem_append_right _ (List.mem_append_left _ (List.mem_of_getElem? (i := 61) (by decide +kernel)))))) (by decide +kernel)
theorem k_co_P_node : Cond.code y_P_node b_P_node 3 (some .int) ∈ yT := yT_in (List.mem_append_right _ (List.mem_append_right _ (List.mem_append_right _ (List.mem_append_left _ (List.mem_of_getElem? (i := 62) (by decide +kernel)))))) (by decide +kernel)
theorem k_ml_P_159 : Cond.methodLink R_P 159 y_Tree_place ∈ yT := yT_in (List.mem_append_right _ (List.mem_append_right _ (List.mem_append_right _ (List.mem_append_left _ (List.mem_of_getElem? (i := 63) (by decide +kernel)))))) (by decide +kernel)
theorem k_ml_Law_64 : Cond.methodLink R_Law 64 y_P_pool ∈ yT := yT_in (List.mem_append_right _ (List.mem_append_right _ (List.mem_append_right _ (List.mem_append_left _ (List.mem_of_getElem? (i := 64) (by decide +kernel)))))) (by decide +kernel)
theorem k_im_P_pool : Cond.instanceMethod y_P_pool ∈ yT := yT_in (List.mem_append_right _ (List.mem_append_right _ (List.mem_append_right _ (List.mem_append_left _ (List.mem_of_getElem? (i := 65) (by decide +kernel)))))) (by decide +kernel)
theorem k_se_P_pool : Cond.selects R_P y_P_pool y_P_pool ∈ yT := yT_in (List.mem_append_right _ (List.mem_append_right _ (List.mem_append_right _ (List.mem_append_left _ (List.mem_of_getElem? (i := 66) (by decide +kernel)))))) (by decide +kernel)
theorem k_co_P_pool : Cond.code y_P_pool b_P_pool 1 (some .int) ∈ yT := yT_in (List.mem_append_right _ (List.mem_append_right _ (List.mem_append_right _ (List.mem_append_left _ (List.mem_of_getElem? (i := 67) (by decide +kernel)))))) (by decide +kernel)
theorem k_ml_Law_68 : Cond.methodLink R_Law 68 y_P_revealed ∈ yT := yT_in (List.mem_append_right _ (List.mem_append_right _ (List.mem_append_right _ (List.mem_append_left _ (List.mem_of_getElem? (i := 68) (by decide +kernel)))))) (by decide +kernel)
theorem k_im_P_revealed : Cond.instanceMethod y_P_revealed ∈ yT := yT_in (List.mem_append_right _ (List.mem_append_right _ (List.mem_append_right _ (List.mem_append_left _ (List.mem_of_getElem? (i := 69) (by decide +kernel)))))) (by decide +kernel)
theorem k_se_P_revealed : Cond.selects R_P y_P_revealed y_P_revealed ∈ yT := yT_in (List.mem_append_right _ (List.mem_append_right _ (List.mem_append_right _ (List.mem_append_left _ (List.mem_of_getElem? (i := 70) (by decide +kernel)))))) (by decide +kernel)
theorem k_co_P_revealed : Cond.code y_P_revealed b_P_revealed 2 (some .boolean) ∈ yT := yT_in (List.mem_append_right _ (List.mem_append_right _ (List.mem_append_right _ (List.mem_append_left _ (List.mem_of_getElem? (i := 71) (by decide +kernel)))))) (by decide +kernel)
theorem k_ml_Law_72 : Cond.methodLink R_Law 72 y_P_note ∈ yT := yT_in (List.mem_append_right _ (List.mem_append_right _ (List.mem_append_right _ (List.mem_append_left _ (List.mem_of_getElem? (i := 72) (by decide +kernel)))))) (by decide +kernel)
theorem k_im_P_note : Cond.instanceMethod y_P_note ∈ yT := yT_in (List.mem_append_right _ (List.mem_append_right _ (List.mem_append_right _ (List.mem_append_left _ (List.mem_of_getElem? (i := 73) (by decide +kernel)))))) (by decide +kernel)
theorem k_se_P_note : Cond.selects R_P y_P_note y_P_note ∈ yT := yT_in (List.mem_append_right _ (List.mem_append_right _ (List.mem_append_right _ (List.mem_append_left _ (List.mem_of_getElem? (i := 74) (by decide +kernel)))))) (by decide +kernel)
theorem k_co_P_note : Cond.code y_P_note b_P_note 4 (some .int) ∈ yT := yT_in (List.mem_append_right _ (List.mem_append_right _ (List.mem_append_right _ (List.mem_append_left _ (List.mem_of_getElem? (i := 75) (by decide +kernel)))))) (by decide +kernel)
theorem k_ml_Law_77 : Cond.methodLink R_Law 77 y_P_total ∈ yT := yT_in (List.mem_append_right _ (List.mem_append_right _ (List.mem_append_right _ (List.mem_append_left _ (List.mem_of_getElem? (i := 76) (by decide +kernel)))))) (by decide +kernel)
theorem k_im_P_total : Cond.instanceMethod y_P_total ∈ yT := yT_in (List.mem_append_right _ (List.mem_append_right _ (List.mem_append_right _ (List.mem_append_left _ (List.mem_of_getElem? (i := 77) (by decide +kernel)))))) (by decide +kernel)
theorem k_se_P_total : Cond.selects R_P y_P_total y_P_total ∈ yT := yT_in (List.mem_append_right _ (List.mem_append_right _ (List.mem_append_right _ (List.mem_append_left _ (List.mem_of_getElem? (i := 78) (by decide +kernel)))))) (by decide +kernel)
theorem k_co_P_total : Cond.code y_P_total b_P_total 5 (some .int) ∈ yT := yT_in (List.mem_append_right _ (List.mem_append_right _ (List.mem_append_right _ (List.mem_append_left _ (List.mem_of_getElem? (i := 79) (by decide +kernel)))))) (by decide +kernel)
theorem k_ml_Law_81 : Cond.methodLink R_Law 81 y_P_address ∈ yT := yT_in (List.mem_append_right _ (List.mem_append_right _ (List.mem_append_right _ (List.mem_append_left _ (List.mem_of_getElem? (i := 80) (by decide +kernel)))))) (by decide +kernel)
theorem k_im_P_address : Cond.instanceMethod y_P_address ∈ yT := yT_in (List.mem_append_right _ (List.mem_append_right _ (List.mem_append_right _ (List.mem_append_left _ (List.mem_of_getElem? (i := 81) (by decide +kernel)))))) (by decide +kernel)
theorem k_se_P_address : Cond.selects R_P y_P_address y_P_address ∈ yT := yT_in (List.mem_append_right _ (List.mem_append_right _ (List.mem_append_right _ (List.mem_append_left _ (List.mem_of_getElem? (i := 82) (by decide +kernel)))))) (by decide +kernel)
theorem k_co_P_address : Cond.code y_P_address b_P_address 3 (some .int) ∈ yT := yT_in (List.mem_append_right _ (List.mem_append_right _ (List.mem_append_right _ (List.mem_append_left _ (List.mem_of_getElem? (i := 83) (by decide +kernel)))))) (by decide +kernel)
theorem k_ml_P_182 : Cond.methodLink R_P 182 y_Curve_coordinate ∈ yT := yT_in (List.mem_append_right _ (List.mem_append_right _ (List.mem_append_right _ (List.mem_append_left _ (List.mem_of_getElem? (i := 84) (by decide +kernel)))))) (by decide +kernel)
theorem k_ml_Law_85 : Cond.methodLink R_Law 85 y_P_draft ∈ yT := yT_in (List.mem_append_right _ (List.mem_append_right _ (List.mem_append_right _ (List.mem_append_left _ (List.mem_of_getElem? (i := 85) (by decide +kernel)))))) (by decide +kernel)
theorem k_im_P_draft : Cond.instanceMethod y_P_draft ∈ yT := yT_in (List.mem_append_right _ (List.mem_append_right _ (List.mem_append_right _ (List.mem_append_left _ (List.mem_of_getElem? (i := 86) (by decide +kernel)))))) (by decide +kernel)
theorem k_se_P_draft : Cond.selects R_P y_P_draft y_P_draft ∈ yT := yT_in (List.mem_append_right _ (List.mem_append_right _ (List.mem_append_right _ (List.mem_append_left _ (List.mem_of_getElem? (i := 87) (by decide +kernel)))))) (by decide +kernel)
theorem k_co_P_draft : Cond.code y_P_draft b_P_draft 2 (some .int) ∈ yT := yT_in (List.mem_append_right _ (List.mem_append_right _ (List.mem_append_right _ (List.mem_append_left _ (List.mem_of_getElem? (i := 88) (by decide +kernel)))))) (by decide +kernel)
theorem k_ml_P_187 : Cond.methodLink R_P 187 y_Draft_figure ∈ yT := yT_in (List.mem_append_right _ (List.mem_append_right _ (List.mem_append_right _ (List.mem_append_left _ (List.mem_of_getElem? (i := 89) (by decide +kernel)))))) (by decide +kernel)
theorem k_im_Draft_figure : Cond.instanceMethod y_Draft_figure ∈ yT := yT_in (List.mem_append_right _ (List.mem_append_right _ (List.mem_append_right _ (List.mem_append_left _ (List.mem_of_getElem? (i := 90) (by decide +kernel)))))) (by decide +kernel)
theorem k_se_Draft_figure : Cond.selects R_Draft y_Draft_figure y_Draft_figure ∈ yT := yT_in (List.mem_append_right _ (List.mem_append_right _ (List.mem_append_right _ (List.mem_append_left _ (List.mem_of_getElem? (i := 91) (by decide +kernel)))))) (by decide +kernel)
theorem k_co_Draft_figure : Cond.code y_Draft_figure b_Draft_figure 2 (some .int) ∈ yT := yT_in (List.mem_append_right _ (List.mem_append_right _ (List.mem_append_right _ (List.mem_append_left _ (List.mem_of_getElem? (i := 92) (by decide +kernel)))))) (by decide +kernel)
theorem k_ml_Draft_75 : Cond.methodLink R_Draft 75 y_Draft_sealScalar ∈ yT := yT_in (List.mem_append_right _ (List.mem_append_right _ (List.mem_append_right _ (List.mem_append_left _ (List.mem_of_getElem? (i := 93) (by decide +kernel)))))) (by decide +kernel)
theorem k_ml_P_191 : Cond.methodLink R_P 191 y_Draft_coverOfSpend ∈ yT := yT_in (List.mem_append_right _ (List.mem_append_right _ (List.mem_append_right _ (List.mem_append_left _ (List.mem_of_getElem? (i := 94) (by decide +kernel)))))) (by decide +kernel)
theorem k_im_Draft_coverOfSpend : Cond.instanceMethod y_Draft_coverOfSpend ∈ yT := yT_in (List.mem_append_right _ (List.mem_append_right _ (List.mem_append_right _ (List.mem_append_left _ (List.mem_of_getElem? (i := 95) (by decide +kernel)))))) (by decide +kernel)
theorem k_se_Draft_coverOfSpend : Cond.selects R_Draft y_Draft_coverOfSpend y_Draft_coverOfSpend ∈ yT := yT_in (List.mem_append_right _ (List.mem_append_right _ (List.mem_append_right _ (List.mem_append_left _ (List.mem_of_getElem? (i := 96) (by decide +kernel)))))) (by decide +kernel)
theorem k_co_Draft_coverOfSpend : Cond.code y_Draft_coverOfSpend b_Draft_coverOfSpend 3 (some .int) ∈ yT := yT_in (List.mem_append_right _ (List.mem_append_right _ (List.mem_append_right _ (List.mem_append_left _ (List.mem_of_getElem? (i := 97) (by decide +kernel)))))) (by decide +kernel)
theorem k_ml_Draft_79 : Cond.methodLink R_Draft 79 y_Curve_coordinate ∈ yT := yT_in (List.mem_append_right _ (List.mem_append_right _ (List.mem_append_right _ (List.mem_append_left _ (List.mem_of_getElem? (i := 98) (by decide +kernel)))))) (by decide +kernel)
theorem k_ml_P_194 : Cond.methodLink R_P 194 y_Draft_partOfOutput ∈ yT := yT_in (List.mem_append_right _ (List.mem_append_right _ (List.mem_append_right _ (List.mem_append_left _ (List.mem_of_getElem? (i := 99) (by decide +kernel)))))) (by decide +kernel)
theorem k_im_Draft_partOfOutput : Cond.instanceMethod y_Draft_partOfOutput ∈ yT := yT_in (List.mem_append_right _ (List.mem_append_right _ (List.mem_append_right _ (List.mem_append_left _ (List.mem_of_getElem? (i := 100) (by decide +kernel)))))) (by decide +kernel)
theorem k_se_Draft_partOfOutput : Cond.selects R_Draft y_Draft_partOfOutput y_Draft_partOfOutput ∈ yT := yT_in (List.mem_append_right _ (List.mem_append_right _ (List.mem_append_right _ (List.mem_append_left _ (List.mem_of_getElem? (i := 101) (by decide +kernel)))))) (by decide +kernel)
theorem k_co_Draft_partOfOutput : Cond.code y_Draft_partOfOutput b_Draft_partOfOutput 3 (some .int) ∈ yT := yT_in (List.mem_append_right _ (List.mem_append_right _ (List.mem_append_right _ (List.mem_append_left _ (List.mem_of_getElem? (i := 102) (by decide +kernel)))))) (by decide +kernel)
theorem k_ml_Draft_82 : Cond.methodLink R_Draft 82 y_Output_part ∈ yT := yT_in (List.mem_append_right _ (List.mem_append_right _ (List.mem_append_right _ (List.mem_append_left _ (List.mem_of_getElem? (i := 103) (by decide +kernel)))))) (by decide +kernel)
theorem k_im_Output_part : Cond.instanceMethod y_Output_part ∈ yT := yT_in (List.mem_append_right _ (List.mem_append_right _ (List.mem_append_right _ (List.mem_append_left _ (List.mem_of_getElem? (i := 104) (by decide +kernel)))))) (by decide +kernel)
theorem k_se_Output_part : Cond.selects R_Output y_Output_part y_Output_part ∈ yT := yT_in (List.mem_append_right _ (List.mem_append_right _ (List.mem_append_right _ (List.mem_append_left _ (List.mem_of_getElem? (i := 105) (by decide +kernel)))))) (by decide +kernel)
theorem k_co_Output_part : Cond.code y_Output_part b_Output_part 2 (some .int) ∈ yT := yT_in (List.mem_append_right _ (List.mem_append_right _ (List.mem_append_right _ (List.mem_append_left _ (List.mem_of_getElem? (i := 106) (by decide +kernel)))))) (by decide +kernel)
theorem k_ml_P_197 : Cond.methodLink R_P 197 y_Draft_markOfSpend ∈ yT := yT_in (List.mem_append_right _ (List.mem_append_right _ (List.mem_append_right _ (List.mem_append_left _ (List.mem_of_getElem? (i := 107) (by decide +kernel)))))) (by decide +kernel)
theorem k_im_Draft_markOfSpend : Cond.instanceMethod y_Draft_markOfSpend ∈ yT := yT_in (List.mem_append_right _ (List.mem_append_right _ (List.mem_append_right _ (List.mem_append_left _ (List.mem_of_getElem? (i := 108) (by decide +kernel)))))) (by decide +kernel)
theorem k_se_Draft_markOfSpend : Cond.selects R_Draft y_Draft_markOfSpend y_Draft_markOfSpend ∈ yT := yT_in (List.mem_append_right _ (List.mem_append_right _ (List.mem_append_right _ (List.mem_append_left _ (List.mem_of_getElem? (i := 109) (by decide +kernel)))))) (by decide +kernel)
theorem k_co_Draft_markOfSpend : Cond.code y_Draft_markOfSpend b_Draft_markOfSpend 3 (some .int) ∈ yT := yT_in (List.mem_append_right _ (List.mem_append_right _ (List.mem_append_right _ (List.mem_append_left _ (List.mem_of_getElem? (i := 110) (by decide +kernel)))))) (by decide +kernel)
theorem k_cl_Law_10 : Cond.classLink R_Law 10 R_M ∈ yT := yT_in (List.mem_append_right _ (List.mem_append_right _ (List.mem_append_right _ (List.mem_append_left _ (List.mem_of_getElem? (i := 111) (by decide +kernel)))))) (by decide +kernel)
theorem k_it_M : Cond.instantiable R_M 33 ∈ yT := yT_in (List.mem_append_right _ (List.mem_append_right _ (List.mem_append_right _ (List.mem_append_left _ (List.mem_of_getElem? (i := 112) (by decide +kernel)))))) (by decide +kernel)
theorem k_ml_Law_12 : Cond.methodLink R_Law 12 y_M_init ∈ yT := yT_in (List.mem_append_right _ (List.mem_append_right _ (List.mem_append_right _ (List.mem_append_left _ (List.mem_of_getElem? (i := 113) (by decide +kernel)))))) (by decide +kernel)
theorem k_im_M_init : Cond.instanceMethod y_M_init ∈ yT := yT_in (List.mem_append_right _ (List.mem_append_right _ (List.mem_append_right _ (List.mem_append_left _ (List.mem_of_getElem? (i := 114) (by decide +kernel)))))) (by decide +kernel)
theorem k_co_M_init : Cond.code y_M_init b_M_init 6 (Option.none : Option Jvm.ClassFile.FieldType) ∈ yT := yT_in (List.mem_append_right _ (List.mem_append_right _ (List.mem_append_right _ (List.mem_append_left _ (List.mem_of_getElem? (i := 115) (by decide +kernel)))))) (by decide +kernel)
theorem k_ml_M_91 : Cond.methodLink R_M 91 y_M_times ∈ yT := yT_in (List.mem_append_right _ (List.mem_append_right _ (List.mem_append_right _ (List.mem_append_left _ (List.mem_of_getElem? (i := 117) (by decide +kernel)))))) (by decide +kernel)
theorem k_st_M_times : Cond.static y_M_times ∈ yT := yT_in (List.mem_append_right _ (List.mem_append_right _ (List.mem_append_right _ (List.mem_append_left _ (List.mem_of_getElem? (i := 118) (by decide +kernel)))))) (by decide +kernel)
theorem k_co_M_times : Cond.code y_M_times b_M_times 2 (some .int) ∈ yT := yT_in (List.mem_append_right _ (List.mem_append_right _ (List.mem_append_right _ (List.mem_append_left _ (List.mem_of_getElem? (i := 119) (by decide +kernel)))))) (by decide +kernel)
theorem k_ml_M_95 : Cond.methodLink R_M 95 y_M_whole ∈ yT := yT_in (List.mem_append_right _ (List.mem_append_right _ (List.mem_append_right _ (List.mem_append_left _ (List.mem_of_getElem? (i := 120) (by decide +kernel)))))) (by decide +kernel)
theorem k_st_M_whole : Cond.static y_M_whole ∈ yT := yT_in (List.mem_append_right _ (List.mem_append_right _ (List.mem_append_right _ (List.mem_append_left _ (List.mem_of_getElem? (i := 121) (by decide +kernel)))))) (by decide +kernel)
theorem k_co_M_whole : Cond.code y_M_whole b_M_whole 1 (some .int) ∈ yT := yT_in (List.mem_append_right _ (List.mem_append_right _ (List.mem_append_right _ (List.mem_append_left _ (List.mem_of_getElem? (i := 122) (by decide +kernel)))))) (by decide +kernel)
theorem k_ml_M_99 : Cond.methodLink R_M 99 y_M_power ∈ yT := yT_in (List.mem_append_right _ (List.mem_append_right _ (List.mem_append_right _ (List.mem_append_left _ (List.mem_of_getElem? (i := 123) (by decide +kernel)))))) (by decide +kernel)
theorem k_st_M_power : Cond.static y_M_power ∈ yT := yT_in (List.mem_append_right _ (List.mem_append_right _ (List.mem_append_right _ (List.mem_append_left _ (List.mem_of_getElem? (i := 124) (by decide +kernel)))))) (by decide +kernel)
theorem k_co_M_power : Cond.code y_M_power b_M_power 4 (some .int) ∈ yT := yT_in (List.mem_append_right _ (List.mem_append_right _ (List.mem_append_right _ (List.mem_append_left _ (List.mem_of_getElem? (i := 125) (by decide +kernel)))))) (by decide +kernel)
theorem k_fl_M_7 : Cond.fieldLink R_M 7 "NotePoolModel" "px" "[I" ∈ yT := yT_in (List.mem_append_right _ (List.mem_append_right _ (List.mem_append_right _ (List.mem_append_left _ (List.mem_of_getElem? (i := 126) (by decide +kernel)))))) (by decide +kernel)
theorem k_fl_M_13 : Cond.fieldLink R_M 13 "NotePoolModel" "py" "[I" ∈ yT := yT_in (List.mem_append_right _ (List.mem_append_right _ (List.mem_append_right _ (List.mem_append_left _ (List.mem_of_getElem? (i := 127) (by decide +kernel)))))) (by decide +kernel)
theorem k_fl_M_121 : Cond.fieldLink R_M 121 "NotePoolModel" "keys" "I" ∈ yT := yT_in (List.mem_append_right _ (List.mem_append_right _ (List.mem_append_right _ (List.mem_append_left _ (List.mem_of_getElem? (i := 128) (by decide +kernel)))))) (by decide +kernel)
theorem k_fl_M_16 : Cond.fieldLink R_M 16 "NotePoolModel" "secret" "[I" ∈ yT := yT_in (List.mem_append_right _ (List.mem_append_right _ (List.mem_append_right _ (List.mem_append_left _ (List.mem_of_getElem? (i := 129) (by decide +kernel)))))) (by decide +kernel)
theorem k_fl_M_153 : Cond.fieldLink R_M 153 "NotePoolModel" "spends" "I" ∈ yT := yT_in (List.mem_append_right _ (List.mem_append_right _ (List.mem_append_right _ (List.mem_append_left _ (List.mem_of_getElem? (i := 130) (by decide +kernel)))))) (by decide +kernel)
theorem k_fl_M_19 : Cond.fieldLink R_M 19 "NotePoolModel" "spendKey" "[I" ∈ yT := yT_in (List.mem_append_right _ (List.mem_append_right _ (List.mem_append_right _ (List.mem_append_left _ (List.mem_of_getElem? (i := 131) (by decide +kernel)))))) (by decide +kernel)
theorem k_fl_M_22 : Cond.fieldLink R_M 22 "NotePoolModel" "spendLeaf" "[I" ∈ yT := yT_in (List.mem_append_right _ (List.mem_append_right _ (List.mem_append_right _ (List.mem_append_left _ (List.mem_of_getElem? (i := 132) (by decide +kernel)))))) (by decide +kernel)
theorem k_fl_M_25 : Cond.fieldLink R_M 25 "NotePoolModel" "spendValue" "[I" ∈ yT := yT_in (List.mem_append_right _ (List.mem_append_right _ (List.mem_append_right _ (List.mem_append_left _ (List.mem_of_getElem? (i := 133) (by decide +kernel)))))) (by decide +kernel)
theorem k_fl_M_28 : Cond.fieldLink R_M 28 "NotePoolModel" "spendTrap" "[I" ∈ yT := yT_in (List.mem_append_right _ (List.mem_append_right _ (List.mem_append_right _ (List.mem_append_left _ (List.mem_of_getElem? (i := 134) (by decide +kernel)))))) (by decide +kernel)
theorem k_fl_M_31 : Cond.fieldLink R_M 31 "NotePoolModel" "spendBlind" "[I" ∈ yT := yT_in (List.mem_append_right _ (List.mem_append_right _ (List.mem_append_right _ (List.mem_append_left _ (List.mem_of_getElem? (i := 135) (by decide +kernel)))))) (by decide +kernel)
theorem k_fl_M_34 : Cond.fieldLink R_M 34 "NotePoolModel" "spendAnchor" "[I" ∈ yT := yT_in (List.mem_append_right _ (List.mem_append_right _ (List.mem_append_right _ (List.mem_append_left _ (List.mem_of_getElem? (i := 136) (by decide +kernel)))))) (by decide +kernel)
theorem k_fl_M_37 : Cond.fieldLink R_M 37 "NotePoolModel" "spendNull" "[I" ∈ yT := yT_in (List.mem_append_right _ (List.mem_append_right _ (List.mem_append_right _ (List.mem_append_left _ (List.mem_of_getElem? (i := 137) (by decide +kernel)))))) (by decide +kernel)
theorem k_fl_M_40 : Cond.fieldLink R_M 40 "NotePoolModel" "path" "[I" ∈ yT := yT_in (List.mem_append_right _ (List.mem_append_right _ (List.mem_append_right _ (List.mem_append_left _ (List.mem_of_getElem? (i := 138) (by decide +kernel)))))) (by decide +kernel)
theorem k_fl_M_156 : Cond.fieldLink R_M 156 "NotePoolModel" "outputs" "I" ∈ yT := yT_in (List.mem_append_right _ (List.mem_append_right _ (List.mem_append_right _ (List.mem_append_left _ (List.mem_of_getElem? (i := 139) (by decide +kernel)))))) (by decide +kernel)
theorem k_fl_M_43 : Cond.fieldLink R_M 43 "NotePoolModel" "outKey" "[I" ∈ yT := yT_in (List.mem_append_right _ (List.mem_append_right _ (List.mem_append_right _ (List.mem_append_left _ (List.mem_of_getElem? (i := 140) (by decide +kernel)))))) (by decide +kernel)
theorem k_fl_M_46 : Cond.fieldLink R_M 46 "NotePoolModel" "outValue" "[I" ∈ yT := yT_in (List.mem_append_right _ (List.mem_append_right _ (List.mem_append_right _ (List.mem_append_left _ (List.mem_of_getElem? (i := 141) (by decide +kernel)))))) (by decide +kernel)
theorem k_fl_M_49 : Cond.fieldLink R_M 49 "NotePoolModel" "outTrap" "[I" ∈ yT := yT_in (List.mem_append_right _ (List.mem_append_right _ (List.mem_append_right _ (List.mem_append_left _ (List.mem_of_getElem? (i := 142) (by decide +kernel)))))) (by decide +kernel)
theorem k_fl_M_52 : Cond.fieldLink R_M 52 "NotePoolModel" "outBlind" "[I" ∈ yT := yT_in (List.mem_append_right _ (List.mem_append_right _ (List.mem_append_right _ (List.mem_append_left _ (List.mem_of_getElem? (i := 143) (by decide +kernel)))))) (by decide +kernel)
theorem k_fl_M_55 : Cond.fieldLink R_M 55 "NotePoolModel" "outCommit" "[I" ∈ yT := yT_in (List.mem_append_right _ (List.mem_append_right _ (List.mem_append_right _ (List.mem_append_left _ (List.mem_of_getElem? (i := 144) (by decide +kernel)))))) (by decide +kernel)
theorem k_fl_M_58 : Cond.fieldLink R_M 58 "NotePoolModel" "outOpen" "[I" ∈ yT := yT_in (List.mem_append_right _ (List.mem_append_right _ (List.mem_append_right _ (List.mem_append_left _ (List.mem_of_getElem? (i := 145) (by decide +kernel)))))) (by decide +kernel)
theorem k_fl_M_61 : Cond.fieldLink R_M 61 "NotePoolModel" "outFirst" "[I" ∈ yT := yT_in (List.mem_append_right _ (List.mem_append_right _ (List.mem_append_right _ (List.mem_append_left _ (List.mem_of_getElem? (i := 146) (by decide +kernel)))))) (by decide +kernel)
theorem k_fl_M_64 : Cond.fieldLink R_M 64 "NotePoolModel" "outSecond" "[I" ∈ yT := yT_in (List.mem_append_right _ (List.mem_append_right _ (List.mem_append_right _ (List.mem_append_left _ (List.mem_of_getElem? (i := 147) (by decide +kernel)))))) (by decide +kernel)
theorem k_fl_M_159 : Cond.fieldLink R_M 159 "NotePoolModel" "balance" "I" ∈ yT := yT_in (List.mem_append_right _ (List.mem_append_right _ (List.mem_append_right _ (List.mem_append_left _ (List.mem_of_getElem? (i := 148) (by decide +kernel)))))) (by decide +kernel)
theorem k_fl_M_162 : Cond.fieldLink R_M 162 "NotePoolModel" "turn" "I" ∈ yT := yT_in (List.mem_append_right _ (List.mem_append_right _ (List.mem_append_right _ (List.mem_append_left _ (List.mem_of_getElem? (i := 149) (by decide +kernel)))))) (by decide +kernel)
theorem k_fl_M_106 : Cond.fieldLink R_M 106 "NotePoolModel" "blocks" "I" ∈ yT := yT_in (List.mem_append_right _ (List.mem_append_right _ (List.mem_append_right _ (List.mem_append_left _ (List.mem_of_getElem? (i := 150) (by decide +kernel)))))) (by decide +kernel)
theorem k_fl_M_67 : Cond.fieldLink R_M 67 "NotePoolModel" "upTo" "[I" ∈ yT := yT_in (List.mem_append_right _ (List.mem_append_right _ (List.mem_append_right _ (List.mem_append_left _ (List.mem_of_getElem? (i := 151) (by decide +kernel)))))) (by decide +kernel)
theorem k_fl_M_70 : Cond.fieldLink R_M 70 "NotePoolModel" "left" "[I" ∈ yT := yT_in (List.mem_append_right _ (List.mem_append_right _ (List.mem_append_right _ (List.mem_append_left _ (List.mem_of_getElem? (i := 152) (by decide +kernel)))))) (by decide +kernel)
theorem k_fl_M_73 : Cond.fieldLink R_M 73 "NotePoolModel" "shown" "[I" ∈ yT := yT_in (List.mem_append_right _ (List.mem_append_right _ (List.mem_append_right _ (List.mem_append_left _ (List.mem_of_getElem? (i := 153) (by decide +kernel)))))) (by decide +kernel)
theorem k_fl_M_76 : Cond.fieldLink R_M 76 "NotePoolModel" "leaf" "[I" ∈ yT := yT_in (List.mem_append_right _ (List.mem_append_right _ (List.mem_append_right _ (List.mem_append_left _ (List.mem_of_getElem? (i := 154) (by decide +kernel)))))) (by decide +kernel)
theorem k_fl_M_79 : Cond.fieldLink R_M 79 "NotePoolModel" "open" "[I" ∈ yT := yT_in (List.mem_append_right _ (List.mem_append_right _ (List.mem_append_right _ (List.mem_append_left _ (List.mem_of_getElem? (i := 155) (by decide +kernel)))))) (by decide +kernel)
theorem k_fl_M_82 : Cond.fieldLink R_M 82 "NotePoolModel" "first" "[I" ∈ yT := yT_in (List.mem_append_right _ (List.mem_append_right _ (List.mem_append_right _ (List.mem_append_left _ (List.mem_of_getElem? (i := 156) (by decide +kernel)))))) (by decide +kernel)
theorem k_fl_M_85 : Cond.fieldLink R_M 85 "NotePoolModel" "second" "[I" ∈ yT := yT_in (List.mem_append_right _ (List.mem_append_right _ (List.mem_append_right _ (List.mem_append_left _ (List.mem_of_getElem? (i := 157) (by decide +kernel)))))) (by decide +kernel)
theorem k_fl_M_88 : Cond.fieldLink R_M 88 "NotePoolModel" "row" "[I" ∈ yT := yT_in (List.mem_append_right _ (List.mem_append_right _ (List.mem_append_right _ (List.mem_append_left _ (List.mem_of_getElem? (i := 158) (by decide +kernel)))))) (by decide +kernel)
theorem k_ml_Law_58 : Cond.methodLink R_Law 58 y_M_leaves ∈ yT := yT_in (List.mem_append_right _ (List.mem_append_right _ (List.mem_append_right _ (List.mem_append_left _ (List.mem_of_getElem? (i := 226) (by decide +kernel)))))) (by decide +kernel)
theorem k_im_M_leaves : Cond.instanceMethod y_M_leaves ∈ yT := yT_in (List.mem_append_right _ (List.mem_append_right _ (List.mem_append_right _ (List.mem_append_left _ (List.mem_of_getElem? (i := 227) (by decide +kernel)))))) (by decide +kernel)
theorem k_se_M_leaves : Cond.selects R_M y_M_leaves y_M_leaves ∈ yT := yT_in (List.mem_append_right _ (List.mem_append_right _ (List.mem_append_right _ (List.mem_append_left _ (List.mem_of_getElem? (i := 228) (by decide +kernel)))))) (by decide +kernel)
theorem k_co_M_leaves : Cond.code y_M_leaves b_M_leaves 1 (some .int) ∈ yT := yT_in (List.mem_append_right _ (List.mem_append_right _ (List.mem_append_right _ (List.mem_append_left _ (List.mem_of_getElem? (i := 229) (by decide +kernel)))))) (by decide +kernel)
theorem k_ml_Law_63 : Cond.methodLink R_Law 63 y_M_node ∈ yT := yT_in (List.mem_append_right _ (List.mem_append_right _ (List.mem_append_right _ (List.mem_append_left _ (List.mem_of_getElem? (i := 230) (by decide +kernel)))))) (by decide +kernel)
theorem k_im_M_node : Cond.instanceMethod y_M_node ∈ yT := yT_in (List.mem_append_right _ (List.mem_append_right _ (List.mem_append_right _ (List.mem_append_left _ (List.mem_of_getElem? (i := 231) (by decide +kernel)))))) (by decide +kernel)
theorem k_se_M_node : Cond.selects R_M y_M_node y_M_node ∈ yT := yT_in (List.mem_append_right _ (List.mem_append_right _ (List.mem_append_right _ (List.mem_append_left _ (List.mem_of_getElem? (i := 232) (by decide +kernel)))))) (by decide +kernel)
theorem k_co_M_node : Cond.code y_M_node b_M_node 3 (some .int) ∈ yT := yT_in (List.mem_append_right _ (List.mem_append_right _ (List.mem_append_right _ (List.mem_append_left _ (List.mem_of_getElem? (i := 233) (by decide +kernel)))))) (by decide +kernel)
theorem k_ml_M_110 : Cond.methodLink R_M 110 y_M_in ∈ yT := yT_in (List.mem_append_right _ (List.mem_append_right _ (List.mem_append_right _ (List.mem_append_left _ (List.mem_of_getElem? (i := 234) (by decide +kernel)))))) (by decide +kernel)
theorem k_st_M_in : Cond.static y_M_in ∈ yT := yT_in (List.mem_append_right _ (List.mem_append_right _ (List.mem_append_right _ (List.mem_append_left _ (List.mem_of_getElem? (i := 235) (by decide +kernel)))))) (by decide +kernel)
theorem k_co_M_in : Cond.code y_M_in b_M_in 3 (some .boolean) ∈ yT := yT_in (List.mem_append_right _ (List.mem_append_right _ (List.mem_append_right _ (List.mem_append_left _ (List.mem_of_getElem? (i := 236) (by decide +kernel)))))) (by decide +kernel)
theorem k_ml_M_114 : Cond.methodLink R_M 114 y_M_leaves ∈ yT := yT_in (List.mem_append_right _ (List.mem_append_right _ (List.mem_append_right _ (List.mem_append_left _ (List.mem_of_getElem? (i := 237) (by decide +kernel)))))) (by decide +kernel)
theorem k_ml_M_118 : Cond.methodLink R_M 118 y_M_nodeOf ∈ yT := yT_in (List.mem_append_right _ (List.mem_append_right _ (List.mem_append_right _ (List.mem_append_left _ (List.mem_of_getElem? (i := 238) (by decide +kernel)))))) (by decide +kernel)
theorem k_im_M_nodeOf : Cond.instanceMethod y_M_nodeOf ∈ yT := yT_in (List.mem_append_right _ (List.mem_append_right _ (List.mem_append_right _ (List.mem_append_right _ (List.mem_of_getElem? (i := 0) (by decide +kernel)))))) (by decide +kernel)
theorem k_co_M_nodeOf : Cond.code y_M_nodeOf b_M_nodeOf 6 (some .int) ∈ yT := yT_in (List.mem_append_right _ (List.mem_append_right _ (List.mem_append_right _ (List.mem_append_right _ (List.mem_of_getElem? (i := 1) (by decide +kernel)))))) (by decide +kernel)
theorem k_ml_M_102 : Cond.methodLink R_M 102 y_M_hash ∈ yT := yT_in (List.mem_append_right _ (List.mem_append_right _ (List.mem_append_right _ (List.mem_append_right _ (List.mem_of_getElem? (i := 2) (by decide +kernel)))))) (by decide +kernel)
theorem k_im_M_hash : Cond.instanceMethod y_M_hash ∈ yT := yT_in (List.mem_append_right _ (List.mem_append_right _ (List.mem_append_right _ (List.mem_append_right _ (List.mem_of_getElem? (i := 4) (by decide +kernel)))))) (by decide +kernel)
theorem k_co_M_hash : Cond.code y_M_hash b_M_hash 4 (some .int) ∈ yT := yT_in (List.mem_append_right _ (List.mem_append_right _ (List.mem_append_right _ (List.mem_append_right _ (List.mem_of_getElem? (i := 5) (by decide +kernel)))))) (by decide +kernel)
theorem k_ml_Law_17 : Cond.methodLink R_Law 17 y_M_key ∈ yT := yT_in (List.mem_append_right _ (List.mem_append_right _ (List.mem_append_right _ (List.mem_append_right _ (List.mem_of_getElem? (i := 6) (by decide +kernel)))))) (by decide +kernel)
theorem k_im_M_key : Cond.instanceMethod y_M_key ∈ yT := yT_in (List.mem_append_right _ (List.mem_append_right _ (List.mem_append_right _ (List.mem_append_right _ (List.mem_of_getElem? (i := 7) (by decide +kernel)))))) (by decide +kernel)
theorem k_se_M_key : Cond.selects R_M y_M_key y_M_key ∈ yT := yT_in (List.mem_append_right _ (List.mem_append_right _ (List.mem_append_right _ (List.mem_append_right _ (List.mem_of_getElem? (i := 8) (by decide +kernel)))))) (by decide +kernel)
theorem k_co_M_key : Cond.code y_M_key b_M_key 2 (some .int) ∈ yT := yT_in (List.mem_append_right _ (List.mem_append_right _ (List.mem_append_right _ (List.mem_append_right _ (List.mem_of_getElem? (i := 9) (by decide +kernel)))))) (by decide +kernel)
theorem k_ml_Law_84 : Cond.methodLink R_Law 84 y_M_address ∈ yT := yT_in (List.mem_append_right _ (List.mem_append_right _ (List.mem_append_right _ (List.mem_append_right _ (List.mem_of_getElem? (i := 10) (by decide +kernel)))))) (by decide +kernel)
theorem k_im_M_address : Cond.instanceMethod y_M_address ∈ yT := yT_in (List.mem_append_right _ (List.mem_append_right _ (List.mem_append_right _ (List.mem_append_right _ (List.mem_of_getElem? (i := 11) (by decide +kernel)))))) (by decide +kernel)
theorem k_se_M_address : Cond.selects R_M y_M_address y_M_address ∈ yT := yT_in (List.mem_append_right _ (List.mem_append_right _ (List.mem_append_right _ (List.mem_append_right _ (List.mem_of_getElem? (i := 12) (by decide +kernel)))))) (by decide +kernel)
theorem k_co_M_address : Cond.code y_M_address b_M_address 3 (some .int) ∈ yT := yT_in (List.mem_append_right _ (List.mem_append_right _ (List.mem_append_right _ (List.mem_append_right _ (List.mem_of_getElem? (i := 13) (by decide +kernel)))))) (by decide +kernel)
theorem k_ml_M_124 : Cond.methodLink R_M 124 y_M_isKey ∈ yT := yT_in (List.mem_append_right _ (List.mem_append_right _ (List.mem_append_right _ (List.mem_append_right _ (List.mem_of_getElem? (i := 14) (by decide +kernel)))))) (by decide +kernel)
theorem k_im_M_isKey : Cond.instanceMethod y_M_isKey ∈ yT := yT_in (List.mem_append_right _ (List.mem_append_right _ (List.mem_append_right _ (List.mem_append_right _ (List.mem_of_getElem? (i := 16) (by decide +kernel)))))) (by decide +kernel)
theorem k_co_M_isKey : Cond.code y_M_isKey b_M_isKey 2 (some .boolean) ∈ yT := yT_in (List.mem_append_right _ (List.mem_append_right _ (List.mem_append_right _ (List.mem_append_right _ (List.mem_of_getElem? (i := 17) (by decide +kernel)))))) (by decide +kernel)
theorem k_ml_Law_76 : Cond.methodLink R_Law 76 y_M_note ∈ yT := yT_in (List.mem_append_right _ (List.mem_append_right _ (List.mem_append_right _ (List.mem_append_right _ (List.mem_of_getElem? (i := 18) (by decide +kernel)))))) (by decide +kernel)
theorem k_im_M_note : Cond.instanceMethod y_M_note ∈ yT := yT_in (List.mem_append_right _ (List.mem_append_right _ (List.mem_append_right _ (List.mem_append_right _ (List.mem_of_getElem? (i := 19) (by decide +kernel)))))) (by decide +kernel)
theorem k_se_M_note : Cond.selects R_M y_M_note y_M_note ∈ yT := yT_in (List.mem_append_right _ (List.mem_append_right _ (List.mem_append_right _ (List.mem_append_right _ (List.mem_of_getElem? (i := 20) (by decide +kernel)))))) (by decide +kernel)
theorem k_co_M_note : Cond.code y_M_note b_M_note 5 (some .int) ∈ yT := yT_in (List.mem_append_right _ (List.mem_append_right _ (List.mem_append_right _ (List.mem_append_right _ (List.mem_of_getElem? (i := 21) (by decide +kernel)))))) (by decide +kernel)
theorem k_ml_M_143 : Cond.methodLink R_M 143 y_M_finds ∈ yT := yT_in (List.mem_append_right _ (List.mem_append_right _ (List.mem_append_right _ (List.mem_append_right _ (List.mem_of_getElem? (i := 22) (by decide +kernel)))))) (by decide +kernel)
theorem k_im_M_finds : Cond.instanceMethod y_M_finds ∈ yT := yT_in (List.mem_append_right _ (List.mem_append_right _ (List.mem_append_right _ (List.mem_append_right _ (List.mem_of_getElem? (i := 24) (by decide +kernel)))))) (by decide +kernel)
theorem k_co_M_finds : Cond.code y_M_finds b_M_finds 3 (some .boolean) ∈ yT := yT_in (List.mem_append_right _ (List.mem_append_right _ (List.mem_append_right _ (List.mem_append_right _ (List.mem_of_getElem? (i := 25) (by decide +kernel)))))) (by decide +kernel)
theorem k_ml_M_134 : Cond.methodLink R_M 134 y_M_valueOf ∈ yT := yT_in (List.mem_append_right _ (List.mem_append_right _ (List.mem_append_right _ (List.mem_append_right _ (List.mem_of_getElem? (i := 26) (by decide +kernel)))))) (by decide +kernel)
theorem k_im_M_valueOf : Cond.instanceMethod y_M_valueOf ∈ yT := yT_in (List.mem_append_right _ (List.mem_append_right _ (List.mem_append_right _ (List.mem_append_right _ (List.mem_of_getElem? (i := 28) (by decide +kernel)))))) (by decide +kernel)
theorem k_co_M_valueOf : Cond.code y_M_valueOf b_M_valueOf 3 (some .int) ∈ yT := yT_in (List.mem_append_right _ (List.mem_append_right _ (List.mem_append_right _ (List.mem_append_right _ (List.mem_of_getElem? (i := 29) (by decide +kernel)))))) (by decide +kernel)
theorem k_ml_M_128 : Cond.methodLink R_M 128 y_M_shared ∈ yT := yT_in (List.mem_append_right _ (List.mem_append_right _ (List.mem_append_right _ (List.mem_append_right _ (List.mem_of_getElem? (i := 30) (by decide +kernel)))))) (by decide +kernel)
theorem k_im_M_shared : Cond.instanceMethod y_M_shared ∈ yT := yT_in (List.mem_append_right _ (List.mem_append_right _ (List.mem_append_right _ (List.mem_append_right _ (List.mem_of_getElem? (i := 32) (by decide +kernel)))))) (by decide +kernel)
theorem k_co_M_shared : Cond.code y_M_shared b_M_shared 3 (some .int) ∈ yT := yT_in (List.mem_append_right _ (List.mem_append_right _ (List.mem_append_right _ (List.mem_append_right _ (List.mem_of_getElem? (i := 33) (by decide +kernel)))))) (by decide +kernel)
theorem k_ml_M_131 : Cond.methodLink R_M 131 y_M_rest ∈ yT := yT_in (List.mem_append_right _ (List.mem_append_right _ (List.mem_append_right _ (List.mem_append_right _ (List.mem_of_getElem? (i := 34) (by decide +kernel)))))) (by decide +kernel)
theorem k_st_M_rest : Cond.static y_M_rest ∈ yT := yT_in (List.mem_append_right _ (List.mem_append_right _ (List.mem_append_right _ (List.mem_append_right _ (List.mem_of_getElem? (i := 35) (by decide +kernel)))))) (by decide +kernel)
theorem k_co_M_rest : Cond.code y_M_rest b_M_rest 2 (some .int) ∈ yT := yT_in (List.mem_append_right _ (List.mem_append_right _ (List.mem_append_right _ (List.mem_append_right _ (List.mem_of_getElem? (i := 36) (by decide +kernel)))))) (by decide +kernel)
theorem k_ml_M_137 : Cond.methodLink R_M 137 y_M_trapOf ∈ yT := yT_in (List.mem_append_right _ (List.mem_append_right _ (List.mem_append_right _ (List.mem_append_right _ (List.mem_of_getElem? (i := 37) (by decide +kernel)))))) (by decide +kernel)
theorem k_im_M_trapOf : Cond.instanceMethod y_M_trapOf ∈ yT := yT_in (List.mem_append_right _ (List.mem_append_right _ (List.mem_append_right _ (List.mem_append_right _ (List.mem_of_getElem? (i := 39) (by decide +kernel)))))) (by decide +kernel)
theorem k_co_M_trapOf : Cond.code y_M_trapOf b_M_trapOf 3 (some .int) ∈ yT := yT_in (List.mem_append_right _ (List.mem_append_right _ (List.mem_append_right _ (List.mem_append_right _ (List.mem_of_getElem? (i := 40) (by decide +kernel)))))) (by decide +kernel)
theorem k_ml_M_140 : Cond.methodLink R_M 140 y_M_commitment ∈ yT := yT_in (List.mem_append_right _ (List.mem_append_right _ (List.mem_append_right _ (List.mem_append_right _ (List.mem_of_getElem? (i := 41) (by decide +kernel)))))) (by decide +kernel)
theorem k_im_M_commitment : Cond.instanceMethod y_M_commitment ∈ yT := yT_in (List.mem_append_right _ (List.mem_append_right _ (List.mem_append_right _ (List.mem_append_right _ (List.mem_of_getElem? (i := 43) (by decide +kernel)))))) (by decide +kernel)
theorem k_co_M_commitment : Cond.code y_M_commitment b_M_commitment 4 (some .int) ∈ yT := yT_in (List.mem_append_right _ (List.mem_append_right _ (List.mem_append_right _ (List.mem_append_right _ (List.mem_of_getElem? (i := 44) (by decide +kernel)))))) (by decide +kernel)
theorem k_ml_M_147 : Cond.methodLink R_M 147 y_M_nullifier ∈ yT := yT_in (List.mem_append_right _ (List.mem_append_right _ (List.mem_append_right _ (List.mem_append_right _ (List.mem_of_getElem? (i := 45) (by decide +kernel)))))) (by decide +kernel)
theorem k_im_M_nullifier : Cond.instanceMethod y_M_nullifier ∈ yT := yT_in (List.mem_append_right _ (List.mem_append_right _ (List.mem_append_right _ (List.mem_append_right _ (List.mem_of_getElem? (i := 47) (by decide +kernel)))))) (by decide +kernel)
theorem k_co_M_nullifier : Cond.code y_M_nullifier b_M_nullifier 3 (some .int) ∈ yT := yT_in (List.mem_append_right _ (List.mem_append_right _ (List.mem_append_right _ (List.mem_append_right _ (List.mem_of_getElem? (i := 48) (by decide +kernel)))))) (by decide +kernel)
theorem k_ml_M_150 : Cond.methodLink R_M 150 y_M_revealed ∈ yT := yT_in (List.mem_append_right _ (List.mem_append_right _ (List.mem_append_right _ (List.mem_append_right _ (List.mem_of_getElem? (i := 49) (by decide +kernel)))))) (by decide +kernel)
theorem k_im_M_revealed : Cond.instanceMethod y_M_revealed ∈ yT := yT_in (List.mem_append_right _ (List.mem_append_right _ (List.mem_append_right _ (List.mem_append_right _ (List.mem_of_getElem? (i := 50) (by decide +kernel)))))) (by decide +kernel)
theorem k_se_M_revealed : Cond.selects R_M y_M_revealed y_M_revealed ∈ yT := yT_in (List.mem_append_right _ (List.mem_append_right _ (List.mem_append_right _ (List.mem_append_right _ (List.mem_of_getElem? (i := 51) (by decide +kernel)))))) (by decide +kernel)
theorem k_co_M_revealed : Cond.code y_M_revealed b_M_revealed 4 (some .boolean) ∈ yT := yT_in (List.mem_append_right _ (List.mem_append_right _ (List.mem_append_right _ (List.mem_append_right _ (List.mem_of_getElem? (i := 52) (by decide +kernel)))))) (by decide +kernel)
theorem k_ml_Law_80 : Cond.methodLink R_Law 80 y_M_total ∈ yT := yT_in (List.mem_append_right _ (List.mem_append_right _ (List.mem_append_right _ (List.mem_append_right _ (List.mem_of_getElem? (i := 53) (by decide +kernel)))))) (by decide +kernel)
theorem k_im_M_total : Cond.instanceMethod y_M_total ∈ yT := yT_in (List.mem_append_right _ (List.mem_append_right _ (List.mem_append_right _ (List.mem_append_right _ (List.mem_of_getElem? (i := 54) (by decide +kernel)))))) (by decide +kernel)
theorem k_se_M_total : Cond.selects R_M y_M_total y_M_total ∈ yT := yT_in (List.mem_append_right _ (List.mem_append_right _ (List.mem_append_right _ (List.mem_append_right _ (List.mem_of_getElem? (i := 55) (by decide +kernel)))))) (by decide +kernel)
theorem k_co_M_total : Cond.code y_M_total b_M_total 4 (some .int) ∈ yT := yT_in (List.mem_append_right _ (List.mem_append_right _ (List.mem_append_right _ (List.mem_append_right _ (List.mem_of_getElem? (i := 56) (by decide +kernel)))))) (by decide +kernel)
theorem k_ml_Law_21 : Cond.methodLink R_Law 21 y_M_clear ∈ yT := yT_in (List.mem_append_right _ (List.mem_append_right _ (List.mem_append_right _ (List.mem_append_right _ (List.mem_of_getElem? (i := 57) (by decide +kernel)))))) (by decide +kernel)
theorem k_im_M_clear : Cond.instanceMethod y_M_clear ∈ yT := yT_in (List.mem_append_right _ (List.mem_append_right _ (List.mem_append_right _ (List.mem_append_right _ (List.mem_of_getElem? (i := 58) (by decide +kernel)))))) (by decide +kernel)
theorem k_se_M_clear : Cond.selects R_M y_M_clear y_M_clear ∈ yT := yT_in (List.mem_append_right _ (List.mem_append_right _ (List.mem_append_right _ (List.mem_append_right _ (List.mem_of_getElem? (i := 59) (by decide +kernel)))))) (by decide +kernel)
theorem k_co_M_clear : Cond.code y_M_clear b_M_clear 1 (Option.none : Option Jvm.ClassFile.FieldType) ∈ yT := yT_in (List.mem_append_right _ (List.mem_append_right _ (List.mem_append_right _ (List.mem_append_right _ (List.mem_of_getElem? (i := 60) (by decide +kernel)))))) (by decide +kernel)
theorem k_ml_Law_26 : Cond.methodLink R_Law 26 y_M_spend ∈ yT := yT_in (List.mem_append_right _ (List.mem_append_right _ (List.mem_append_right _ (List.mem_append_right _ (List.mem_of_getElem? (i := 61) (by decide +kernel)))))) (by decide +kernel)
theorem k_im_M_spend : Cond.instanceMethod y_M_spend ∈ yT := yT_in (List.mem_append_right _ (List.mem_append_right _ (List.mem_append_right _ (List.mem_append_right _ (List.mem_of_getElem? (i := 62) (by decide +kernel)))))) (by decide +kernel)
theorem k_se_M_spend : Cond.selects R_M y_M_spend y_M_spend ∈ yT := yT_in (List.mem_append_right _ (List.mem_append_right _ (List.mem_append_right _ (List.mem_append_right _ (List.mem_of_getElem? (i := 63) (by decide +kernel)))))) (by decide +kernel)
theorem k_co_M_spend : Cond.code y_M_spend b_M_spend 6 (some .boolean) ∈ yT := yT_in (List.mem_append_right _ (List.mem_append_right _ (List.mem_append_right _ (List.mem_append_right _ (List.mem_of_getElem? (i := 64) (by decide +kernel)))))) (by decide +kernel)
theorem k_ml_M_165 : Cond.methodLink R_M 165 y_M_isScalar ∈ yT := yT_in (List.mem_append_right _ (List.mem_append_right _ (List.mem_append_right _ (List.mem_append_right _ (List.mem_of_getElem? (i := 65) (by decide +kernel)))))) (by decide +kernel)
theorem k_st_M_isScalar : Cond.static y_M_isScalar ∈ yT := yT_in (List.mem_append_right _ (List.mem_append_right _ (List.mem_append_right _ (List.mem_append_right _ (List.mem_of_getElem? (i := 66) (by decide +kernel)))))) (by decide +kernel)
theorem k_co_M_isScalar : Cond.code y_M_isScalar b_M_isScalar 1 (some .boolean) ∈ yT := yT_in (List.mem_append_right _ (List.mem_append_right _ (List.mem_append_right _ (List.mem_append_right _ (List.mem_of_getElem? (i := 67) (by decide +kernel)))))) (by decide +kernel)
theorem k_ml_M_168 : Cond.methodLink R_M 168 y_M_node ∈ yT := yT_in (List.mem_append_right _ (List.mem_append_right _ (List.mem_append_right _ (List.mem_append_right _ (List.mem_of_getElem? (i := 68) (by decide +kernel)))))) (by decide +kernel)
theorem k_ml_Law_31 : Cond.methodLink R_Law 31 y_M_output ∈ yT := yT_in (List.mem_append_right _ (List.mem_append_right _ (List.mem_append_right _ (List.mem_append_right _ (List.mem_of_getElem? (i := 69) (by decide +kernel)))))) (by decide +kernel)
theorem k_im_M_output : Cond.instanceMethod y_M_output ∈ yT := yT_in (List.mem_append_right _ (List.mem_append_right _ (List.mem_append_right _ (List.mem_append_right _ (List.mem_of_getElem? (i := 70) (by decide +kernel)))))) (by decide +kernel)
theorem k_se_M_output : Cond.selects R_M y_M_output y_M_output ∈ yT := yT_in (List.mem_append_right _ (List.mem_append_right _ (List.mem_append_right _ (List.mem_append_right _ (List.mem_of_getElem? (i := 71) (by decide +kernel)))))) (by decide +kernel)
theorem k_co_M_output : Cond.code y_M_output b_M_output 7 (some .boolean) ∈ yT := yT_in (List.mem_append_right _ (List.mem_append_right _ (List.mem_append_right _ (List.mem_append_right _ (List.mem_of_getElem? (i := 72) (by decide +kernel)))))) (by decide +kernel)
theorem k_ml_Law_36 : Cond.methodLink R_Law 36 y_M_balance ∈ yT := yT_in (List.mem_append_right _ (List.mem_append_right _ (List.mem_append_right _ (List.mem_append_right _ (List.mem_of_getElem? (i := 73) (by decide +kernel)))))) (by decide +kernel)
theorem k_im_M_balance : Cond.instanceMethod y_M_balance ∈ yT := yT_in (List.mem_append_right _ (List.mem_append_right _ (List.mem_append_right _ (List.mem_append_right _ (List.mem_of_getElem? (i := 74) (by decide +kernel)))))) (by decide +kernel)
theorem k_se_M_balance : Cond.selects R_M y_M_balance y_M_balance ∈ yT := yT_in (List.mem_append_right _ (List.mem_append_right _ (List.mem_append_right _ (List.mem_append_right _ (List.mem_of_getElem? (i := 75) (by decide +kernel)))))) (by decide +kernel)
theorem k_co_M_balance : Cond.code y_M_balance b_M_balance 2 (some .boolean) ∈ yT := yT_in (List.mem_append_right _ (List.mem_append_right _ (List.mem_append_right _ (List.mem_append_right _ (List.mem_of_getElem? (i := 76) (by decide +kernel)))))) (by decide +kernel)
theorem k_ml_Law_41 : Cond.methodLink R_Law 41 y_M_alter ∈ yT := yT_in (List.mem_append_right _ (List.mem_append_right _ (List.mem_append_right _ (List.mem_append_right _ (List.mem_of_getElem? (i := 77) (by decide +kernel)))))) (by decide +kernel)
theorem k_im_M_alter : Cond.instanceMethod y_M_alter ∈ yT := yT_in (List.mem_append_right _ (List.mem_append_right _ (List.mem_append_right _ (List.mem_append_right _ (List.mem_of_getElem? (i := 78) (by decide +kernel)))))) (by decide +kernel)
theorem k_se_M_alter : Cond.selects R_M y_M_alter y_M_alter ∈ yT := yT_in (List.mem_append_right _ (List.mem_append_right _ (List.mem_append_right _ (List.mem_append_right _ (List.mem_of_getElem? (i := 79) (by decide +kernel)))))) (by decide +kernel)
theorem k_co_M_alter : Cond.code y_M_alter b_M_alter 5 (some .boolean) ∈ yT := yT_in (List.mem_append_right _ (List.mem_append_right _ (List.mem_append_right _ (List.mem_append_right _ (List.mem_of_getElem? (i := 80) (by decide +kernel)))))) (by decide +kernel)
theorem k_ml_Law_54 : Cond.methodLink R_Law 54 y_M_blocks ∈ yT := yT_in (List.mem_append_right _ (List.mem_append_right _ (List.mem_append_right _ (List.mem_append_right _ (List.mem_of_getElem? (i := 81) (by decide +kernel)))))) (by decide +kernel)
theorem k_im_M_blocks : Cond.instanceMethod y_M_blocks ∈ yT := yT_in (List.mem_append_right _ (List.mem_append_right _ (List.mem_append_right _ (List.mem_append_right _ (List.mem_of_getElem? (i := 82) (by decide +kernel)))))) (by decide +kernel)
theorem k_se_M_blocks : Cond.selects R_M y_M_blocks y_M_blocks ∈ yT := yT_in (List.mem_append_right _ (List.mem_append_right _ (List.mem_append_right _ (List.mem_append_right _ (List.mem_of_getElem? (i := 83) (by decide +kernel)))))) (by decide +kernel)
theorem k_co_M_blocks : Cond.code y_M_blocks b_M_blocks 1 (some .int) ∈ yT := yT_in (List.mem_append_right _ (List.mem_append_right _ (List.mem_append_right _ (List.mem_append_right _ (List.mem_of_getElem? (i := 84) (by decide +kernel)))))) (by decide +kernel)
theorem k_ml_Law_67 : Cond.methodLink R_Law 67 y_M_pool ∈ yT := yT_in (List.mem_append_right _ (List.mem_append_right _ (List.mem_append_right _ (List.mem_append_right _ (List.mem_of_getElem? (i := 85) (by decide +kernel)))))) (by decide +kernel)
theorem k_im_M_pool : Cond.instanceMethod y_M_pool ∈ yT := yT_in (List.mem_append_right _ (List.mem_append_right _ (List.mem_append_right _ (List.mem_append_right _ (List.mem_of_getElem? (i := 86) (by decide +kernel)))))) (by decide +kernel)
theorem k_se_M_pool : Cond.selects R_M y_M_pool y_M_pool ∈ yT := yT_in (List.mem_append_right _ (List.mem_append_right _ (List.mem_append_right _ (List.mem_append_right _ (List.mem_of_getElem? (i := 87) (by decide +kernel)))))) (by decide +kernel)
theorem k_co_M_pool : Cond.code y_M_pool b_M_pool 3 (some .int) ∈ yT := yT_in (List.mem_append_right _ (List.mem_append_right _ (List.mem_append_right _ (List.mem_append_right _ (List.mem_of_getElem? (i := 88) (by decide +kernel)))))) (by decide +kernel)
theorem k_ml_Law_71 : Cond.methodLink R_Law 71 y_M_revealed ∈ yT := yT_in (List.mem_append_right _ (List.mem_append_right _ (List.mem_append_right _ (List.mem_append_right _ (List.mem_of_getElem? (i := 89) (by decide +kernel)))))) (by decide +kernel)
theorem k_ml_Law_46 : Cond.methodLink R_Law 46 y_M_connect ∈ yT := yT_in (List.mem_append_right _ (List.mem_append_right _ (List.mem_append_right _ (List.mem_append_right _ (List.mem_of_getElem? (i := 90) (by decide +kernel)))))) (by decide +kernel)
theorem k_im_M_connect : Cond.instanceMethod y_M_connect ∈ yT := yT_in (List.mem_append_right _ (List.mem_append_right _ (List.mem_append_right _ (List.mem_append_right _ (List.mem_of_getElem? (i := 91) (by decide +kernel)))))) (by decide +kernel)
theorem k_se_M_connect : Cond.selects R_M y_M_connect y_M_connect ∈ yT := yT_in (List.mem_append_right _ (List.mem_append_right _ (List.mem_append_right _ (List.mem_append_right _ (List.mem_of_getElem? (i := 92) (by decide +kernel)))))) (by decide +kernel)
theorem k_co_M_connect : Cond.code y_M_connect b_M_connect 4 (some .int) ∈ yT := yT_in (List.mem_append_right _ (List.mem_append_right _ (List.mem_append_right _ (List.mem_append_right _ (List.mem_of_getElem? (i := 93) (by decide +kernel)))))) (by decide +kernel)
theorem k_ml_M_189 : Cond.methodLink R_M 189 y_M_fault ∈ yT := yT_in (List.mem_append_right _ (List.mem_append_right _ (List.mem_append_right _ (List.mem_append_right _ (List.mem_of_getElem? (i := 94) (by decide +kernel)))))) (by decide +kernel)
theorem k_im_M_fault : Cond.instanceMethod y_M_fault ∈ yT := yT_in (List.mem_append_right _ (List.mem_append_right _ (List.mem_append_right _ (List.mem_append_right _ (List.mem_of_getElem? (i := 96) (by decide +kernel)))))) (by decide +kernel)
theorem k_co_M_fault : Cond.code y_M_fault b_M_fault 2 (some .int) ∈ yT := yT_in (List.mem_append_right _ (List.mem_append_right _ (List.mem_append_right _ (List.mem_append_right _ (List.mem_of_getElem? (i := 97) (by decide +kernel)))))) (by decide +kernel)
theorem k_ml_M_174 : Cond.methodLink R_M 174 y_M_isRoot ∈ yT := yT_in (List.mem_append_right _ (List.mem_append_right _ (List.mem_append_right _ (List.mem_append_right _ (List.mem_of_getElem? (i := 98) (by decide +kernel)))))) (by decide +kernel)
theorem k_im_M_isRoot : Cond.instanceMethod y_M_isRoot ∈ yT := yT_in (List.mem_append_right _ (List.mem_append_right _ (List.mem_append_right _ (List.mem_append_right _ (List.mem_of_getElem? (i := 100) (by decide +kernel)))))) (by decide +kernel)
theorem k_co_M_isRoot : Cond.code y_M_isRoot b_M_isRoot 4 (some .boolean) ∈ yT := yT_in (List.mem_append_right _ (List.mem_append_right _ (List.mem_append_right _ (List.mem_append_right _ (List.mem_of_getElem? (i := 101) (by decide +kernel)))))) (by decide +kernel)
theorem k_ml_M_177 : Cond.methodLink R_M 177 y_M_proven ∈ yT := yT_in (List.mem_append_right _ (List.mem_append_right _ (List.mem_append_right _ (List.mem_append_right _ (List.mem_of_getElem? (i := 102) (by decide +kernel)))))) (by decide +kernel)
theorem k_im_M_proven : Cond.instanceMethod y_M_proven ∈ yT := yT_in (List.mem_append_right _ (List.mem_append_right _ (List.mem_append_right _ (List.mem_append_right _ (List.mem_of_getElem? (i := 104) (by decide +kernel)))))) (by decide +kernel)
theorem k_co_M_proven : Cond.code y_M_proven b_M_proven 6 (some .boolean) ∈ yT := yT_in (List.mem_append_right _ (List.mem_append_right _ (List.mem_append_right _ (List.mem_append_right _ (List.mem_of_getElem? (i := 105) (by decide +kernel)))))) (by decide +kernel)
theorem k_ml_M_180 : Cond.methodLink R_M 180 y_M_covers ∈ yT := yT_in (List.mem_append_right _ (List.mem_append_right _ (List.mem_append_right _ (List.mem_append_right _ (List.mem_of_getElem? (i := 106) (by decide +kernel)))))) (by decide +kernel)
theorem k_im_M_covers : Cond.instanceMethod y_M_covers ∈ yT := yT_in (List.mem_append_right _ (List.mem_append_right _ (List.mem_append_right _ (List.mem_append_right _ (List.mem_of_getElem? (i := 108) (by decide +kernel)))))) (by decide +kernel)
theorem k_co_M_covers : Cond.code y_M_covers b_M_covers 3 (some .int) ∈ yT := yT_in (List.mem_append_right _ (List.mem_append_right _ (List.mem_append_right _ (List.mem_append_right _ (List.mem_of_getElem? (i := 109) (by decide +kernel)))))) (by decide +kernel)
theorem k_ml_M_171 : Cond.methodLink R_M 171 y_M_cover ∈ yT := yT_in (List.mem_append_right _ (List.mem_append_right _ (List.mem_append_right _ (List.mem_append_right _ (List.mem_of_getElem? (i := 110) (by decide +kernel)))))) (by decide +kernel)
theorem k_st_M_cover : Cond.static y_M_cover ∈ yT := yT_in (List.mem_append_right _ (List.mem_append_right _ (List.mem_append_right _ (List.mem_append_right _ (List.mem_of_getElem? (i := 111) (by decide +kernel)))))) (by decide +kernel)
theorem k_co_M_cover : Cond.code y_M_cover b_M_cover 2 (some .int) ∈ yT := yT_in (List.mem_append_right _ (List.mem_append_right _ (List.mem_append_right _ (List.mem_append_right _ (List.mem_of_getElem? (i := 112) (by decide +kernel)))))) (by decide +kernel)
theorem k_ml_M_183 : Cond.methodLink R_M 183 y_M_seal ∈ yT := yT_in (List.mem_append_right _ (List.mem_append_right _ (List.mem_append_right _ (List.mem_append_right _ (List.mem_of_getElem? (i := 113) (by decide +kernel)))))) (by decide +kernel)
theorem k_im_M_seal : Cond.instanceMethod y_M_seal ∈ yT := yT_in (List.mem_append_right _ (List.mem_append_right _ (List.mem_append_right _ (List.mem_append_right _ (List.mem_of_getElem? (i := 115) (by decide +kernel)))))) (by decide +kernel)
theorem k_co_M_seal : Cond.code y_M_seal b_M_seal 3 (some .int) ∈ yT := yT_in (List.mem_append_right _ (List.mem_append_right _ (List.mem_append_right _ (List.mem_append_right _ (List.mem_of_getElem? (i := 116) (by decide +kernel)))))) (by decide +kernel)
theorem k_ml_M_186 : Cond.methodLink R_M 186 y_M_pool ∈ yT := yT_in (List.mem_append_right _ (List.mem_append_right _ (List.mem_append_right _ (List.mem_append_right _ (List.mem_of_getElem? (i := 117) (by decide +kernel)))))) (by decide +kernel)
theorem k_ml_M_192 : Cond.methodLink R_M 192 y_M_clear ∈ yT := yT_in (List.mem_append_right _ (List.mem_append_right _ (List.mem_append_right _ (List.mem_append_right _ (List.mem_of_getElem? (i := 118) (by decide +kernel)))))) (by decide +kernel)
theorem k_ml_Law_50 : Cond.methodLink R_Law 50 y_M_disconnect ∈ yT := yT_in (List.mem_append_right _ (List.mem_append_right _ (List.mem_append_right _ (List.mem_append_right _ (List.mem_of_getElem? (i := 119) (by decide +kernel)))))) (by decide +kernel)
theorem k_im_M_disconnect : Cond.instanceMethod y_M_disconnect ∈ yT := yT_in (List.mem_append_right _ (List.mem_append_right _ (List.mem_append_right _ (List.mem_append_right _ (List.mem_of_getElem? (i := 120) (by decide +kernel)))))) (by decide +kernel)
theorem k_se_M_disconnect : Cond.selects R_M y_M_disconnect y_M_disconnect ∈ yT := yT_in (List.mem_append_right _ (List.mem_append_right _ (List.mem_append_right _ (List.mem_append_right _ (List.mem_of_getElem? (i := 121) (by decide +kernel)))))) (by decide +kernel)
theorem k_co_M_disconnect : Cond.code y_M_disconnect b_M_disconnect 1 (some .int) ∈ yT := yT_in (List.mem_append_right _ (List.mem_append_right _ (List.mem_append_right _ (List.mem_append_right _ (List.mem_of_getElem? (i := 122) (by decide +kernel)))))) (by decide +kernel)
theorem k_ml_Law_88 : Cond.methodLink R_Law 88 y_M_draft ∈ yT := yT_in (List.mem_append_right _ (List.mem_append_right _ (List.mem_append_right _ (List.mem_append_right _ (List.mem_of_getElem? (i := 123) (by decide +kernel)))))) (by decide +kernel)
theorem k_im_M_draft : Cond.instanceMethod y_M_draft ∈ yT := yT_in (List.mem_append_right _ (List.mem_append_right _ (List.mem_append_right _ (List.mem_append_right _ (List.mem_of_getElem? (i := 124) (by decide +kernel)))))) (by decide +kernel)
theorem k_se_M_draft : Cond.selects R_M y_M_draft y_M_draft ∈ yT := yT_in (List.mem_append_right _ (List.mem_append_right _ (List.mem_append_right _ (List.mem_append_right _ (List.mem_of_getElem? (i := 125) (by decide +kernel)))))) (by decide +kernel)
theorem k_co_M_draft : Cond.code y_M_draft b_M_draft 5 (some .int) ∈ yT := yT_in (List.mem_append_right _ (List.mem_append_right _ (List.mem_append_right _ (List.mem_append_right _ (List.mem_of_getElem? (i := 126) (by decide +kernel)))))) (by decide +kernel)
theorem k_ml_M_195 : Cond.methodLink R_M 195 y_M_outputPart ∈ yT := yT_in (List.mem_append_right _ (List.mem_append_right _ (List.mem_append_right _ (List.mem_append_right _ (List.mem_of_getElem? (i := 127) (by decide +kernel)))))) (by decide +kernel)
theorem k_im_M_outputPart : Cond.instanceMethod y_M_outputPart ∈ yT := yT_in (List.mem_append_right _ (List.mem_append_right _ (List.mem_append_right _ (List.mem_append_right _ (List.mem_of_getElem? (i := 129) (by decide +kernel)))))) (by decide +kernel)
theorem k_co_M_outputPart : Cond.code y_M_outputPart b_M_outputPart 5 (some .int) ∈ yT := yT_in (List.mem_append_right _ (List.mem_append_right _ (List.mem_append_right _ (List.mem_append_right _ (List.mem_of_getElem? (i := 130) (by decide +kernel)))))) (by decide +kernel)
theorem k_se_P_finds : Cond.selects R_P y_P_finds y_P_finds ∈ yT := yT_in (List.mem_append_left _ (List.mem_of_getElem? (i := 0) (by decide +kernel))) (by decide +kernel)
theorem k_se_P_isKey : Cond.selects R_P y_P_isKey y_P_isKey ∈ yT := yT_in (List.mem_append_left _ (List.mem_of_getElem? (i := 1) (by decide +kernel))) (by decide +kernel)
theorem k_se_P_judgeSpends : Cond.selects R_P y_P_judgeSpends y_P_judgeSpends ∈ yT := yT_in (List.mem_append_left _ (List.mem_of_getElem? (i := 2) (by decide +kernel))) (by decide +kernel)
theorem k_se_P_judgeOutputs : Cond.selects R_P y_P_judgeOutputs y_P_judgeOutputs ∈ yT := yT_in (List.mem_append_left _ (List.mem_of_getElem? (i := 3) (by decide +kernel))) (by decide +kernel)
theorem k_se_P_judgeWhole : Cond.selects R_P y_P_judgeWhole y_P_judgeWhole ∈ yT := yT_in (List.mem_append_left _ (List.mem_of_getElem? (i := 4) (by decide +kernel))) (by decide +kernel)
theorem k_se_Tree_setLeaf : Cond.selects R_Tree y_Tree_setLeaf y_Tree_setLeaf ∈ yT := yT_in (List.mem_append_left _ (List.mem_of_getElem? (i := 5) (by decide +kernel))) (by decide +kernel)
theorem k_se_P_lookAtLatestLeaf : Cond.selects R_P y_P_lookAtLatestLeaf y_P_lookAtLatestLeaf ∈ yT := yT_in (List.mem_append_left _ (List.mem_of_getElem? (i := 6) (by decide +kernel))) (by decide +kernel)
theorem k_se_M_nodeOf : Cond.selects R_M y_M_nodeOf y_M_nodeOf ∈ yT := yT_in (List.mem_append_left _ (List.mem_of_getElem? (i := 7) (by decide +kernel))) (by decide +kernel)
theorem k_se_M_hash : Cond.selects R_M y_M_hash y_M_hash ∈ yT := yT_in (List.mem_append_left _ (List.mem_of_getElem? (i := 8) (by decide +kernel))) (by decide +kernel)
theorem k_se_M_isKey : Cond.selects R_M y_M_isKey y_M_isKey ∈ yT := yT_in (List.mem_append_left _ (List.mem_of_getElem? (i := 9) (by decide +kernel))) (by decide +kernel)
theorem k_se_M_finds : Cond.selects R_M y_M_finds y_M_finds ∈ yT := yT_in (List.mem_append_left _ (List.mem_of_getElem? (i := 10) (by decide +kernel))) (by decide +kernel)
theorem k_se_M_valueOf : Cond.selects R_M y_M_valueOf y_M_valueOf ∈ yT := yT_in (List.mem_append_left _ (List.mem_of_getElem? (i := 11) (by decide +kernel))) (by decide +kernel)
theorem k_se_M_shared : Cond.selects R_M y_M_shared y_M_shared ∈ yT := yT_in (List.mem_append_left _ (List.mem_of_getElem? (i := 12) (by decide +kernel))) (by decide +kernel)
theorem k_se_M_trapOf : Cond.selects R_M y_M_trapOf y_M_trapOf ∈ yT := yT_in (List.mem_append_left _ (List.mem_of_getElem? (i := 13) (by decide +kernel))) (by decide +kernel)
theorem k_se_M_commitment : Cond.selects R_M y_M_commitment y_M_commitment ∈ yT := yT_in (List.mem_append_left _ (List.mem_of_getElem? (i := 14) (by decide +kernel))) (by decide +kernel)
theorem k_se_M_nullifier : Cond.selects R_M y_M_nullifier y_M_nullifier ∈ yT := yT_in (List.mem_append_left _ (List.mem_of_getElem? (i := 15) (by decide +kernel))) (by decide +kernel)
theorem k_se_M_fault : Cond.selects R_M y_M_fault y_M_fault ∈ yT := yT_in (List.mem_append_left _ (List.mem_of_getElem? (i := 16) (by decide +kernel))) (by decide +kernel)
theorem k_se_M_isRoot : Cond.selects R_M y_M_isRoot y_M_isRoot ∈ yT := yT_in (List.mem_append_left _ (List.mem_of_getElem? (i := 17) (by decide +kernel))) (by decide +kernel)
theorem k_se_M_proven : Cond.selects R_M y_M_proven y_M_proven ∈ yT := yT_in (List.mem_append_left _ (List.mem_of_getElem? (i := 18) (by decide +kernel))) (by decide +kernel)
theorem k_se_M_covers : Cond.selects R_M y_M_covers y_M_covers ∈ yT := yT_in (List.mem_append_left _ (List.mem_of_getElem? (i := 19) (by decide +kernel))) (by decide +kernel)
theorem k_se_M_seal : Cond.selects R_M y_M_seal y_M_seal ∈ yT := yT_in (List.mem_append_left _ (List.mem_of_getElem? (i := 20) (by decide +kernel))) (by decide +kernel)
theorem k_se_M_outputPart : Cond.selects R_M y_M_outputPart y_M_outputPart ∈ yT := yT_in (List.mem_append_left _ (List.mem_of_getElem? (i := 21) (by decide +kernel))) (by decide +kernel)
def yNest (U : State) : Prop := va_Nw (Cond.methodLinkNest R_P 9 y_Bases_init R_P) U ∧ va_Nw (Cond.methodLinkNest R_Chain 21 y_Block_init R_P) U ∧ va_Nw (Cond.methodLinkNest R_Draft 23 y_Spend_init R_P) U ∧ va_Nw (Cond.fieldLinkNest R_Draft 38 "NotePool$Spend" "coverScalar" "I" R_P) U ∧ va_Nw (Cond.methodLinkNest R_Draft 24 y_Output_init R_P) U ∧ va_Nw (Cond.methodLinkNest R_P 51 y_Key_init R_P) U ∧ va_Nw (Cond.methodLinkNest R_Spend 71 y_P_isValue R_P) U ∧ va_Nw (Cond.methodLinkNest R_Spend 75 y_P_isFieldNumber R_P) U ∧ va_Nw (Cond.methodLinkNest R_Output 65 y_P_isFieldNumber R_P) U ∧ va_Nw (Cond.methodLinkNest R_Output 69 y_P_isValue R_P) U
theorem yNest_mv {s U : State} (hW : s.WarmedH U.vm) (h : yNest s) : yNest U := by
  obtain ⟨h0, h1, h2, h3, h4, h5, h6, h7, h8, h9⟩ := h
  exact ⟨va_Nw.warmM hW h0, va_Nw.warmM hW h1, va_Nw.warmM hW h2, va_Nw.warmF hW h3, va_Nw.warmM hW h4, va_Nw.warmM hW h5, va_Nw.warmM hW h6, va_Nw.warmM hW h7, va_Nw.warmM hW h8, va_Nw.warmM hW h9⟩
theorem yNest_bl {U V : State} (hV : U.vm = V.vm) (h : yNest U) : yNest V := by
  obtain ⟨h0, h1, h2, h3, h4, h5, h6, h7, h8, h9⟩ := h
  exact ⟨va_Nw.same rfl hV h0, va_Nw.same rfl hV h1, va_Nw.same rfl hV h2, va_Nw.same rfl hV h3, va_Nw.same rfl hV h4, va_Nw.same rfl hV h5, va_Nw.same rfl hV h6, va_Nw.same rfl hV h7, va_Nw.same rfl hV h8, va_Nw.same rfl hV h9⟩
theorem yNest_of {A : Array Value} {s : State} (h : ∀ w ∈ lw_tbl, w.before A s = true) : yNest s := ⟨va_Nw.of rfl (h _ (List.mem_append_right _ (List.mem_append_left _ (List.mem_of_getElem? (i := 24) (by decide +kernel))))), va_Nw.of rfl (h _ (List.mem_append_right _ (List.mem_append_left _ (List.mem_of_getElem? (i := 131) (by decide +kernel))))), va_Nw.of rfl (h _ (List.mem_append_right _ (List.mem_append_left _ (List.mem_of_getElem? (i := 178) (by decide +kernel))))), va_Nw.of rfl (h _ (List.mem_append_right _ (List.mem_append_left _ (List.mem_of_getElem? (i := 188) (by decide +kernel))))), va_Nw.of rfl (h _ (List.mem_append_right _ (List.mem_append_left _ (List.mem_of_getElem? (i := 221) (by decide +kernel))))), va_Nw.of rfl (h _ (List.mem_append_right _ (List.mem_append_right _ (List.mem_append_left _ (List.mem_of_getElem? (i := 51) (by decide +kernel)))))), va_Nw.of rfl (h _ (List.mem_append_right _ (List.mem_append_right _ (List.mem_append_left _ (List.mem_of_getElem? (i := 199) (by decide +kernel)))))), va_Nw.of rfl (h _ (List.mem_append_right _ (List.mem_append_right _ (List.mem_append_left _ (List.mem_of_getElem? (i := 200) (by decide +kernel)))))), va_Nw.of rfl (h _ (List.mem_append_right _ (List.mem_append_right _ (List.mem_append_left _ (List.mem_of_getElem? (i := 207) (by decide +kernel)))))), va_Nw.of rfl (h _ (List.mem_append_right _ (List.mem_append_right _ (List.mem_append_left _ (List.mem_of_getElem? (i := 208) (by decide +kernel))))))⟩
theorem k_ml_P_9 {s : State} (h : yNest s) : va_Nw (Cond.methodLinkNest R_P 9 y_Bases_init R_P) s := h.1
theorem k_ml_Chain_21 {s : State} (h : yNest s) : va_Nw (Cond.methodLinkNest R_Chain 21 y_Block_init R_P) s := h.2.1
theorem k_ml_Draft_23 {s : State} (h : yNest s) : va_Nw (Cond.methodLinkNest R_Draft 23 y_Spend_init R_P) s := h.2.2.1
theorem k_fl_Draft_38 {s : State} (h : yNest s) : va_Nw (Cond.fieldLinkNest R_Draft 38 "NotePool$Spend" "coverScalar" "I" R_P) s := h.2.2.2.1
theorem k_ml_Draft_24 {s : State} (h : yNest s) : va_Nw (Cond.methodLinkNest R_Draft 24 y_Output_init R_P) s := h.2.2.2.2.1
theorem k_ml_P_51 {s : State} (h : yNest s) : va_Nw (Cond.methodLinkNest R_P 51 y_Key_init R_P) s := h.2.2.2.2.2.1
theorem k_ml_Spend_71 {s : State} (h : yNest s) : va_Nw (Cond.methodLinkNest R_Spend 71 y_P_isValue R_P) s := h.2.2.2.2.2.2.1
theorem k_ml_Spend_75 {s : State} (h : yNest s) : va_Nw (Cond.methodLinkNest R_Spend 75 y_P_isFieldNumber R_P) s := h.2.2.2.2.2.2.2.1
theorem k_ml_Output_65 {s : State} (h : yNest s) : va_Nw (Cond.methodLinkNest R_Output 65 y_P_isFieldNumber R_P) s := h.2.2.2.2.2.2.2.2.1
theorem k_ml_Output_69 {s : State} (h : yNest s) : va_Nw (Cond.methodLinkNest R_Output 69 y_P_isValue R_P) s := h.2.2.2.2.2.2.2.2.2
def yK (G : yG) (U : State) : Prop := va_K G.1 ycl (yty G.2) U ∧ yNest U
theorem yK_bl (G : yG) : yBl (yK G) := fun U g mk a h => ⟨va_K.moved (u := U) (U := U.calling g mk a) (Vm.Alike.refl U.vm) h.1, yNest_bl (U := U) (V := U.calling g mk a) rfl h.2⟩
theorem yK_mv (G : yG) : yMv (yK G) := fun s U hW h => ⟨va_K.moved hW.alike h.1, yNest_mv hW h.2⟩
