/-! the objects: their fields in order, their types -/
def FT0 : u_T := fun k => match k with
  | 0 => ("PackHouse", "rows", "[LPackHouse$Row;", true)
  | 1 => ("PackHouse", "settings", "[I", true)
  | 2 => ("PackHouse", "past", "LPackHouse$Row;", true)
  | 3 => ("PackHouse", "dictionary", "LPackHouse$Dictionary;", false)
  | 4 => ("PackHouse", "otherDictionary", "LPackHouse$Dictionary;", false)
  | 5 => ("PackHouse", "written", "LPackHouse$Row;", true)
  | 6 => ("PackHouse", "content", "LPackHouse$Row;", true)
  | 7 => ("PackHouse", "finder", "LPackHouse$Finder;", false)
  | 8 => ("PackHouse", "tokens", "LPackHouse$Tokens;", false)
  | 9 => ("PackHouse", "tags", "LPackHouse$Tags;", false)
  | 10 => ("PackHouse", "known", "[LPackHouse$Share;", false)
  | 11 => ("PackHouse", "packer", "LPackHouse$Packer;", false)
  | 12 => ("PackHouse", "unpacker", "LPackHouse$Unpacker;", false)
  | 13 => ("PackHouse", "packCounts", "[I", true)
  | 14 => ("PackHouse", "readCounts", "[I", true)
  | 15 => ("PackHouse", "checkCounts", "[I", true)
  | 16 => ("PackHouse", "strays", "[I", true)
  | 17 => ("PackHouse", "readPlace", "I", false)
  | _ => ("PackHouse", "place", "I", false)
def fy0 : Nat → FieldType := fun k => match k with
  | 0 => .array (.object "PackHouse$Row")
  | 1 => .array .int
  | 2 => .object "PackHouse$Row"
  | 3 => .object "PackHouse$Dictionary"
  | 4 => .object "PackHouse$Dictionary"
  | 5 => .object "PackHouse$Row"
  | 6 => .object "PackHouse$Row"
  | 7 => .object "PackHouse$Finder"
  | 8 => .object "PackHouse$Tokens"
  | 9 => .object "PackHouse$Tags"
  | 10 => .array (.object "PackHouse$Share")
  | 11 => .object "PackHouse$Packer"
  | 12 => .object "PackHouse$Unpacker"
  | 13 => .array .int
  | 14 => .array .int
  | 15 => .array .int
  | 16 => .array .int
  | 17 => .int
  | _ => .int
theorem fe0 : u_ws "PackHouse" FT0 19 = [Jvm.Cond.laysFinal "PackHouse" "PackHouse" "rows" "[LPackHouse$Row;", Jvm.Cond.laysFinal "PackHouse" "PackHouse" "settings" "[I", Jvm.Cond.laysFinal "PackHouse" "PackHouse" "past" "LPackHouse$Row;", Jvm.Cond.lays "PackHouse" "PackHouse" "dictionary" "LPackHouse$Dictionary;", Jvm.Cond.lays "PackHouse" "PackHouse" "otherDictionary" "LPackHouse$Dictionary;", Jvm.Cond.laysFinal "PackHouse" "PackHouse" "written" "LPackHouse$Row;", Jvm.Cond.laysFinal "PackHouse" "PackHouse" "content" "LPackHouse$Row;", Jvm.Cond.lays "PackHouse" "PackHouse" "finder" "LPackHouse$Finder;", Jvm.Cond.lays "PackHouse" "PackHouse" "tokens" "LPackHouse$Tokens;", Jvm.Cond.lays "PackHouse" "PackHouse" "tags" "LPackHouse$Tags;", Jvm.Cond.lays "PackHouse" "PackHouse" "known" "[LPackHouse$Share;", Jvm.Cond.lays "PackHouse" "PackHouse" "packer" "LPackHouse$Packer;", Jvm.Cond.lays "PackHouse" "PackHouse" "unpacker" "LPackHouse$Unpacker;", Jvm.Cond.laysFinal "PackHouse" "PackHouse" "packCounts" "[I", Jvm.Cond.laysFinal "PackHouse" "PackHouse" "readCounts" "[I", Jvm.Cond.laysFinal "PackHouse" "PackHouse" "checkCounts" "[I", Jvm.Cond.laysFinal "PackHouse" "PackHouse" "strays" "[I", Jvm.Cond.lays "PackHouse" "PackHouse" "readPlace" "I", Jvm.Cond.lays "PackHouse" "PackHouse" "place" "I"] := by decide +kernel
theorem fi0 : ∀ w ∈ u_ws "PackHouse" FT0 19, w ∈ rtbl := by
  rw [fe0]
  exact List.forall_mem_cons.mpr ⟨tw1 (List.mem_of_getElem? (i := 155) rfl) rfl, List.forall_mem_cons.mpr ⟨tw1 (List.mem_of_getElem? (i := 157) rfl) rfl, List.forall_mem_cons.mpr ⟨tw1 (List.mem_of_getElem? (i := 159) rfl) rfl, List.forall_mem_cons.mpr ⟨tw1 (List.mem_of_getElem? (i := 161) rfl) rfl, List.forall_mem_cons.mpr ⟨tw1 (List.mem_of_getElem? (i := 163) rfl) rfl, List.forall_mem_cons.mpr ⟨tw1 (List.mem_of_getElem? (i := 165) rfl) rfl, List.forall_mem_cons.mpr ⟨tw1 (List.mem_of_getElem? (i := 167) rfl) rfl, List.forall_mem_cons.mpr ⟨tw1 (List.mem_of_getElem? (i := 169) rfl) rfl, List.forall_mem_cons.mpr ⟨tw1 (List.mem_of_getElem? (i := 171) rfl) rfl, List.forall_mem_cons.mpr ⟨tw1 (List.mem_of_getElem? (i := 173) rfl) rfl, List.forall_mem_cons.mpr ⟨tw1 (List.mem_of_getElem? (i := 175) rfl) rfl, List.forall_mem_cons.mpr ⟨tw1 (List.mem_of_getElem? (i := 177) rfl) rfl, List.forall_mem_cons.mpr ⟨tw1 (List.mem_of_getElem? (i := 179) rfl) rfl, List.forall_mem_cons.mpr ⟨tw1 (List.mem_of_getElem? (i := 181) rfl) rfl, List.forall_mem_cons.mpr ⟨tw1 (List.mem_of_getElem? (i := 183) rfl) rfl, List.forall_mem_cons.mpr ⟨tw1 (List.mem_of_getElem? (i := 185) rfl) rfl, List.forall_mem_cons.mpr ⟨tw1 (List.mem_of_getElem? (i := 187) rfl) rfl, List.forall_mem_cons.mpr ⟨tw1 (List.mem_of_getElem? (i := 189) rfl) rfl, List.forall_mem_cons.mpr ⟨tw1 (List.mem_of_getElem? (i := 191) rfl) rfl, (fun _ h => absurd h List.not_mem_nil)⟩⟩⟩⟩⟩⟩⟩⟩⟩⟩⟩⟩⟩⟩⟩⟩⟩⟩⟩
theorem fp0 : ∀ k, k < 19 → parseFieldDescriptor (FT0 k).2.2.1 = some (fy0 k) := by decide +kernel
theorem fn0 : ∀ a, a < 19 → ∀ b, b < 19 → a ≠ b → (FT0 a).2.1 ≠ (FT0 b).2.1 := by decide +kernel
theorem fv0 : ∀ j, j < 19 → defaultValue (fy0 j) = vp_V fd0 j := by decide +kernel
def FT1 : u_T := fun k => match k with
  | 0 => ("PackHouseModel", "rows", "[I", true)
  | 1 => ("PackHouseModel", "sizes", "[I", true)
  | 2 => ("PackHouseModel", "desk", "LPackHouseModel$Desk;", true)
  | 3 => ("PackHouseModel", "sums", "LPackHouseModel$Sums;", true)
  | 4 => ("PackHouseModel", "tokens", "LPackHouseModel$Tokens;", true)
  | 5 => ("PackHouseModel", "tags", "LPackHouseModel$Tags;", true)
  | 6 => ("PackHouseModel", "reader", "LPackHouseModel$Reader;", true)
  | 7 => ("PackHouseModel", "writer", "LPackHouseModel$Writer;", true)
  | 8 => ("PackHouseModel", "settings", "[I", true)
  | 9 => ("PackHouseModel", "place", "I", false)
  | 10 => ("PackHouseModel", "amiss", "I", false)
  | 11 => ("PackHouseModel", "beyond", "I", false)
  | _ => ("PackHouseModel", "kept", "[I", true)
def fy1 : Nat → FieldType := fun k => match k with
  | 0 => .array .int
  | 1 => .array .int
  | 2 => .object "PackHouseModel$Desk"
  | 3 => .object "PackHouseModel$Sums"
  | 4 => .object "PackHouseModel$Tokens"
  | 5 => .object "PackHouseModel$Tags"
  | 6 => .object "PackHouseModel$Reader"
  | 7 => .object "PackHouseModel$Writer"
  | 8 => .array .int
  | 9 => .int
  | 10 => .int
  | 11 => .int
  | _ => .array .int
theorem fe1 : u_ws "PackHouseModel" FT1 13 = [Jvm.Cond.laysFinal "PackHouseModel" "PackHouseModel" "rows" "[I", Jvm.Cond.laysFinal "PackHouseModel" "PackHouseModel" "sizes" "[I", Jvm.Cond.laysFinal "PackHouseModel" "PackHouseModel" "desk" "LPackHouseModel$Desk;", Jvm.Cond.laysFinal "PackHouseModel" "PackHouseModel" "sums" "LPackHouseModel$Sums;", Jvm.Cond.laysFinal "PackHouseModel" "PackHouseModel" "tokens" "LPackHouseModel$Tokens;", Jvm.Cond.laysFinal "PackHouseModel" "PackHouseModel" "tags" "LPackHouseModel$Tags;", Jvm.Cond.laysFinal "PackHouseModel" "PackHouseModel" "reader" "LPackHouseModel$Reader;", Jvm.Cond.laysFinal "PackHouseModel" "PackHouseModel" "writer" "LPackHouseModel$Writer;", Jvm.Cond.laysFinal "PackHouseModel" "PackHouseModel" "settings" "[I", Jvm.Cond.lays "PackHouseModel" "PackHouseModel" "place" "I", Jvm.Cond.lays "PackHouseModel" "PackHouseModel" "amiss" "I", Jvm.Cond.lays "PackHouseModel" "PackHouseModel" "beyond" "I", Jvm.Cond.laysFinal "PackHouseModel" "PackHouseModel" "kept" "[I"] := by decide +kernel
theorem fi1 : ∀ w ∈ u_ws "PackHouseModel" FT1 13, w ∈ rtbl := by
  rw [fe1]
  exact List.forall_mem_cons.mpr ⟨tw10 (List.mem_of_getElem? (i := 37) rfl) rfl, List.forall_mem_cons.mpr ⟨tw10 (List.mem_of_getElem? (i := 39) rfl) rfl, List.forall_mem_cons.mpr ⟨tw10 (List.mem_of_getElem? (i := 41) rfl) rfl, List.forall_mem_cons.mpr ⟨tw10 (List.mem_of_getElem? (i := 43) rfl) rfl, List.forall_mem_cons.mpr ⟨tw10 (List.mem_of_getElem? (i := 45) rfl) rfl, List.forall_mem_cons.mpr ⟨tw10 (List.mem_of_getElem? (i := 47) rfl) rfl, List.forall_mem_cons.mpr ⟨tw10 (List.mem_of_getElem? (i := 49) rfl) rfl, List.forall_mem_cons.mpr ⟨tw10 (List.mem_of_getElem? (i := 51) rfl) rfl, List.forall_mem_cons.mpr ⟨tw10 (List.mem_of_getElem? (i := 53) rfl) rfl, List.forall_mem_cons.mpr ⟨tw10 (List.mem_of_getElem? (i := 55) rfl) rfl, List.forall_mem_cons.mpr ⟨tw10 (List.mem_of_getElem? (i := 57) rfl) rfl, List.forall_mem_cons.mpr ⟨tw10 (List.mem_of_getElem? (i := 59) rfl) rfl, List.forall_mem_cons.mpr ⟨tw10 (List.mem_of_getElem? (i := 61) rfl) rfl, (fun _ h => absurd h List.not_mem_nil)⟩⟩⟩⟩⟩⟩⟩⟩⟩⟩⟩⟩⟩
theorem fp1 : ∀ k, k < 13 → parseFieldDescriptor (FT1 k).2.2.1 = some (fy1 k) := by decide +kernel
theorem fn1 : ∀ a, a < 13 → ∀ b, b < 13 → a ≠ b → (FT1 a).2.1 ≠ (FT1 b).2.1 := by decide +kernel
theorem fv1 : ∀ j, j < 13 → defaultValue (fy1 j) = vp_V fd1 j := by decide +kernel
def FT2 : u_T := fun k => match k with
  | 0 => ("PackHouse$BitSource", "in", "[B", false)
  | 1 => ("PackHouse$BitSource", "begun", "I", false)
  | _ => ("PackHouse$BitSource", "left", "I", false)
def fy2 : Nat → FieldType := fun k => match k with
  | 0 => .array .byte
  | 1 => .int
  | _ => .int
theorem fe2 : u_ws "PackHouse$BitSource" FT2 3 = [Jvm.Cond.lays "PackHouse$BitSource" "PackHouse$BitSource" "in" "[B", Jvm.Cond.lays "PackHouse$BitSource" "PackHouse$BitSource" "begun" "I", Jvm.Cond.lays "PackHouse$BitSource" "PackHouse$BitSource" "left" "I"] := by decide +kernel
theorem fi2 : ∀ w ∈ u_ws "PackHouse$BitSource" FT2 3, w ∈ rtbl := by
  rw [fe2]
  exact List.forall_mem_cons.mpr ⟨tw2 (List.mem_of_getElem? (i := 219) rfl) rfl, List.forall_mem_cons.mpr ⟨tw2 (List.mem_of_getElem? (i := 221) rfl) rfl, List.forall_mem_cons.mpr ⟨tw2 (List.mem_of_getElem? (i := 223) rfl) rfl, (fun _ h => absurd h List.not_mem_nil)⟩⟩⟩
theorem fp2 : ∀ k, k < 3 → parseFieldDescriptor (FT2 k).2.2.1 = some (fy2 k) := by decide +kernel
theorem fn2 : ∀ a, a < 3 → ∀ b, b < 3 → a ≠ b → (FT2 a).2.1 ≠ (FT2 b).2.1 := by decide +kernel
theorem fv2 : ∀ j, j < 3 → defaultValue (fy2 j) = vp_V fd2 j := by decide +kernel
def FT3 : u_T := fun k => match k with
  | 0 => ("PackHouse$Codes", "lengths", "[I", true)
  | 1 => ("PackHouse$Codes", "codes", "[I", true)
  | 2 => ("PackHouse$Codes", "cells", "[I", true)
  | 3 => ("PackHouse$Codes", "greatest", "I", false)
  | 4 => ("PackHouse$Codes", "weights", "[I", true)
  | 5 => ("PackHouse$Codes", "weightCounts", "[I", true)
  | 6 => ("PackHouse$Codes", "weightShare", "LPackHouse$Share;", true)
  | 7 => ("PackHouse$Codes", "orderFive", "LPackHouse$Row;", true)
  | 8 => ("PackHouse$Codes", "orderSix", "LPackHouse$Row;", true)
  | 9 => ("PackHouse$Codes", "source", "LPackHouse$BitSource;", true)
  | 10 => ("PackHouse$Codes", "order", "[I", true)
  | 11 => ("PackHouse$Codes", "amounts", "[I", true)
  | 12 => ("PackHouse$Codes", "parents", "[I", true)
  | 13 => ("PackHouse$Codes", "leafAt", "I", false)
  | 14 => ("PackHouse$Codes", "leafEnd", "I", false)
  | 15 => ("PackHouse$Codes", "sumAt", "I", false)
  | _ => ("PackHouse$Codes", "sumEnd", "I", false)
def fy3 : Nat → FieldType := fun k => match k with
  | 0 => .array .int
  | 1 => .array .int
  | 2 => .array .int
  | 3 => .int
  | 4 => .array .int
  | 5 => .array .int
  | 6 => .object "PackHouse$Share"
  | 7 => .object "PackHouse$Row"
  | 8 => .object "PackHouse$Row"
  | 9 => .object "PackHouse$BitSource"
  | 10 => .array .int
  | 11 => .array .int
  | 12 => .array .int
  | 13 => .int
  | 14 => .int
  | 15 => .int
  | _ => .int
theorem fe3 : u_ws "PackHouse$Codes" FT3 17 = [Jvm.Cond.laysFinal "PackHouse$Codes" "PackHouse$Codes" "lengths" "[I", Jvm.Cond.laysFinal "PackHouse$Codes" "PackHouse$Codes" "codes" "[I", Jvm.Cond.laysFinal "PackHouse$Codes" "PackHouse$Codes" "cells" "[I", Jvm.Cond.lays "PackHouse$Codes" "PackHouse$Codes" "greatest" "I", Jvm.Cond.laysFinal "PackHouse$Codes" "PackHouse$Codes" "weights" "[I", Jvm.Cond.laysFinal "PackHouse$Codes" "PackHouse$Codes" "weightCounts" "[I", Jvm.Cond.laysFinal "PackHouse$Codes" "PackHouse$Codes" "weightShare" "LPackHouse$Share;", Jvm.Cond.laysFinal "PackHouse$Codes" "PackHouse$Codes" "orderFive" "LPackHouse$Row;", Jvm.Cond.laysFinal "PackHouse$Codes" "PackHouse$Codes" "orderSix" "LPackHouse$Row;", Jvm.Cond.laysFinal "PackHouse$Codes" "PackHouse$Codes" "source" "LPackHouse$BitSource;", Jvm.Cond.laysFinal "PackHouse$Codes" "PackHouse$Codes" "order" "[I", Jvm.Cond.laysFinal "PackHouse$Codes" "PackHouse$Codes" "amounts" "[I", Jvm.Cond.laysFinal "PackHouse$Codes" "PackHouse$Codes" "parents" "[I", Jvm.Cond.lays "PackHouse$Codes" "PackHouse$Codes" "leafAt" "I", Jvm.Cond.lays "PackHouse$Codes" "PackHouse$Codes" "leafEnd" "I", Jvm.Cond.lays "PackHouse$Codes" "PackHouse$Codes" "sumAt" "I", Jvm.Cond.lays "PackHouse$Codes" "PackHouse$Codes" "sumEnd" "I"] := by decide +kernel
theorem fi3 : ∀ w ∈ u_ws "PackHouse$Codes" FT3 17, w ∈ rtbl := by
  rw [fe3]
  exact List.forall_mem_cons.mpr ⟨tw3 (List.mem_of_getElem? (i := 3) rfl) rfl, List.forall_mem_cons.mpr ⟨tw3 (List.mem_of_getElem? (i := 5) rfl) rfl, List.forall_mem_cons.mpr ⟨tw3 (List.mem_of_getElem? (i := 7) rfl) rfl, List.forall_mem_cons.mpr ⟨tw3 (List.mem_of_getElem? (i := 9) rfl) rfl, List.forall_mem_cons.mpr ⟨tw3 (List.mem_of_getElem? (i := 11) rfl) rfl, List.forall_mem_cons.mpr ⟨tw3 (List.mem_of_getElem? (i := 13) rfl) rfl, List.forall_mem_cons.mpr ⟨tw3 (List.mem_of_getElem? (i := 15) rfl) rfl, List.forall_mem_cons.mpr ⟨tw3 (List.mem_of_getElem? (i := 17) rfl) rfl, List.forall_mem_cons.mpr ⟨tw3 (List.mem_of_getElem? (i := 19) rfl) rfl, List.forall_mem_cons.mpr ⟨tw3 (List.mem_of_getElem? (i := 21) rfl) rfl, List.forall_mem_cons.mpr ⟨tw3 (List.mem_of_getElem? (i := 23) rfl) rfl, List.forall_mem_cons.mpr ⟨tw3 (List.mem_of_getElem? (i := 25) rfl) rfl, List.forall_mem_cons.mpr ⟨tw3 (List.mem_of_getElem? (i := 27) rfl) rfl, List.forall_mem_cons.mpr ⟨tw3 (List.mem_of_getElem? (i := 29) rfl) rfl, List.forall_mem_cons.mpr ⟨tw3 (List.mem_of_getElem? (i := 31) rfl) rfl, List.forall_mem_cons.mpr ⟨tw3 (List.mem_of_getElem? (i := 33) rfl) rfl, List.forall_mem_cons.mpr ⟨tw3 (List.mem_of_getElem? (i := 35) rfl) rfl, (fun _ h => absurd h List.not_mem_nil)⟩⟩⟩⟩⟩⟩⟩⟩⟩⟩⟩⟩⟩⟩⟩⟩⟩
theorem fp3 : ∀ k, k < 17 → parseFieldDescriptor (FT3 k).2.2.1 = some (fy3 k) := by decide +kernel
theorem fn3 : ∀ a, a < 17 → ∀ b, b < 17 → a ≠ b → (FT3 a).2.1 ≠ (FT3 b).2.1 := by decide +kernel
theorem fv3 : ∀ j, j < 17 → defaultValue (fy3 j) = vp_V fd3 j := by decide +kernel
def FT4 : u_T := fun k => match k with
  | 0 => ("PackHouse$Dictionary", "content", "LPackHouse$Row;", true)
  | 1 => ("PackHouse$Dictionary", "stand", "LPackHouse$Stand;", true)
  | 2 => ("PackHouse$Dictionary", "id", "I", false)
  | 3 => ("PackHouse$Dictionary", "codes", "LPackHouse$Codes;", false)
  | _ => ("PackHouse$Dictionary", "tables", "[LPackHouse$Share;", false)
def fy4 : Nat → FieldType := fun k => match k with
  | 0 => .object "PackHouse$Row"
  | 1 => .object "PackHouse$Stand"
  | 2 => .int
  | 3 => .object "PackHouse$Codes"
  | _ => .array (.object "PackHouse$Share")
theorem fe4 : u_ws "PackHouse$Dictionary" FT4 5 = [Jvm.Cond.laysFinal "PackHouse$Dictionary" "PackHouse$Dictionary" "content" "LPackHouse$Row;", Jvm.Cond.laysFinal "PackHouse$Dictionary" "PackHouse$Dictionary" "stand" "LPackHouse$Stand;", Jvm.Cond.lays "PackHouse$Dictionary" "PackHouse$Dictionary" "id" "I", Jvm.Cond.lays "PackHouse$Dictionary" "PackHouse$Dictionary" "codes" "LPackHouse$Codes;", Jvm.Cond.lays "PackHouse$Dictionary" "PackHouse$Dictionary" "tables" "[LPackHouse$Share;"] := by decide +kernel
theorem fi4 : ∀ w ∈ u_ws "PackHouse$Dictionary" FT4 5, w ∈ rtbl := by
  rw [fe4]
  exact List.forall_mem_cons.mpr ⟨tw1 (List.mem_of_getElem? (i := 125) rfl) rfl, List.forall_mem_cons.mpr ⟨tw1 (List.mem_of_getElem? (i := 127) rfl) rfl, List.forall_mem_cons.mpr ⟨tw1 (List.mem_of_getElem? (i := 129) rfl) rfl, List.forall_mem_cons.mpr ⟨tw1 (List.mem_of_getElem? (i := 131) rfl) rfl, List.forall_mem_cons.mpr ⟨tw1 (List.mem_of_getElem? (i := 133) rfl) rfl, (fun _ h => absurd h List.not_mem_nil)⟩⟩⟩⟩⟩
theorem fp4 : ∀ k, k < 5 → parseFieldDescriptor (FT4 k).2.2.1 = some (fy4 k) := by decide +kernel
theorem fn4 : ∀ a, a < 5 → ∀ b, b < 5 → a ≠ b → (FT4 a).2.1 ≠ (FT4 b).2.1 := by decide +kernel
theorem fv4 : ∀ j, j < 5 → defaultValue (fy4 j) = vp_V fd4 j := by decide +kernel
def FT5 : u_T := fun k => match k with
  | 0 => ("PackHouse$Finder", "data", "LPackHouse$Row;", true)
  | 1 => ("PackHouse$Finder", "literals", "[I", false)
  | 2 => ("PackHouse$Finder", "lengths", "[I", false)
  | 3 => ("PackHouse$Finder", "distances", "[I", false)
  | 4 => ("PackHouse$Finder", "found", "I", false)
  | 5 => ("PackHouse$Finder", "tail", "I", false)
  | 6 => ("PackHouse$Finder", "laid", "I", false)
  | 7 => ("PackHouse$Finder", "heads", "[I", false)
  | 8 => ("PackHouse$Finder", "back", "[I", false)
  | 9 => ("PackHouse$Finder", "way", "I", false)
  | 10 => ("PackHouse$Finder", "least", "I", false)
  | 11 => ("PackHouse$Finder", "window", "I", false)
  | 12 => ("PackHouse$Finder", "end", "I", false)
  | 13 => ("PackHouse$Finder", "lastStart", "I", false)
  | 14 => ("PackHouse$Finder", "length", "I", false)
  | 15 => ("PackHouse$Finder", "distance", "I", false)
  | 16 => ("PackHouse$Finder", "aheadPlace", "I", false)
  | 17 => ("PackHouse$Finder", "aheadLength", "I", false)
  | _ => ("PackHouse$Finder", "aheadDistance", "I", false)
def fy5 : Nat → FieldType := fun k => match k with
  | 0 => .object "PackHouse$Row"
  | 1 => .array .int
  | 2 => .array .int
  | 3 => .array .int
  | 4 => .int
  | 5 => .int
  | 6 => .int
  | 7 => .array .int
  | 8 => .array .int
  | 9 => .int
  | 10 => .int
  | 11 => .int
  | 12 => .int
  | 13 => .int
  | 14 => .int
  | 15 => .int
  | 16 => .int
  | 17 => .int
  | _ => .int
theorem fe5 : u_ws "PackHouse$Finder" FT5 19 = [Jvm.Cond.laysFinal "PackHouse$Finder" "PackHouse$Finder" "data" "LPackHouse$Row;", Jvm.Cond.lays "PackHouse$Finder" "PackHouse$Finder" "literals" "[I", Jvm.Cond.lays "PackHouse$Finder" "PackHouse$Finder" "lengths" "[I", Jvm.Cond.lays "PackHouse$Finder" "PackHouse$Finder" "distances" "[I", Jvm.Cond.lays "PackHouse$Finder" "PackHouse$Finder" "found" "I", Jvm.Cond.lays "PackHouse$Finder" "PackHouse$Finder" "tail" "I", Jvm.Cond.lays "PackHouse$Finder" "PackHouse$Finder" "laid" "I", Jvm.Cond.lays "PackHouse$Finder" "PackHouse$Finder" "heads" "[I", Jvm.Cond.lays "PackHouse$Finder" "PackHouse$Finder" "back" "[I", Jvm.Cond.lays "PackHouse$Finder" "PackHouse$Finder" "way" "I", Jvm.Cond.lays "PackHouse$Finder" "PackHouse$Finder" "least" "I", Jvm.Cond.lays "PackHouse$Finder" "PackHouse$Finder" "window" "I", Jvm.Cond.lays "PackHouse$Finder" "PackHouse$Finder" "end" "I", Jvm.Cond.lays "PackHouse$Finder" "PackHouse$Finder" "lastStart" "I", Jvm.Cond.lays "PackHouse$Finder" "PackHouse$Finder" "length" "I", Jvm.Cond.lays "PackHouse$Finder" "PackHouse$Finder" "distance" "I", Jvm.Cond.lays "PackHouse$Finder" "PackHouse$Finder" "aheadPlace" "I", Jvm.Cond.lays "PackHouse$Finder" "PackHouse$Finder" "aheadLength" "I", Jvm.Cond.lays "PackHouse$Finder" "PackHouse$Finder" "aheadDistance" "I"] := by decide +kernel
theorem fi5 : ∀ w ∈ u_ws "PackHouse$Finder" FT5 19, w ∈ rtbl := by
  rw [fe5]
  exact List.forall_mem_cons.mpr ⟨tw3 (List.mem_of_getElem? (i := 195) rfl) rfl, List.forall_mem_cons.mpr ⟨tw3 (List.mem_of_getElem? (i := 197) rfl) rfl, List.forall_mem_cons.mpr ⟨tw3 (List.mem_of_getElem? (i := 199) rfl) rfl, List.forall_mem_cons.mpr ⟨tw3 (List.mem_of_getElem? (i := 201) rfl) rfl, List.forall_mem_cons.mpr ⟨tw3 (List.mem_of_getElem? (i := 203) rfl) rfl, List.forall_mem_cons.mpr ⟨tw3 (List.mem_of_getElem? (i := 205) rfl) rfl, List.forall_mem_cons.mpr ⟨tw3 (List.mem_of_getElem? (i := 207) rfl) rfl, List.forall_mem_cons.mpr ⟨tw3 (List.mem_of_getElem? (i := 209) rfl) rfl, List.forall_mem_cons.mpr ⟨tw3 (List.mem_of_getElem? (i := 211) rfl) rfl, List.forall_mem_cons.mpr ⟨tw3 (List.mem_of_getElem? (i := 213) rfl) rfl, List.forall_mem_cons.mpr ⟨tw3 (List.mem_of_getElem? (i := 215) rfl) rfl, List.forall_mem_cons.mpr ⟨tw3 (List.mem_of_getElem? (i := 217) rfl) rfl, List.forall_mem_cons.mpr ⟨tw3 (List.mem_of_getElem? (i := 219) rfl) rfl, List.forall_mem_cons.mpr ⟨tw3 (List.mem_of_getElem? (i := 221) rfl) rfl, List.forall_mem_cons.mpr ⟨tw3 (List.mem_of_getElem? (i := 223) rfl) rfl, List.forall_mem_cons.mpr ⟨tw3 (List.mem_of_getElem? (i := 225) rfl) rfl, List.forall_mem_cons.mpr ⟨tw3 (List.mem_of_getElem? (i := 227) rfl) rfl, List.forall_mem_cons.mpr ⟨tw3 (List.mem_of_getElem? (i := 229) rfl) rfl, List.forall_mem_cons.mpr ⟨tw3 (List.mem_of_getElem? (i := 231) rfl) rfl, (fun _ h => absurd h List.not_mem_nil)⟩⟩⟩⟩⟩⟩⟩⟩⟩⟩⟩⟩⟩⟩⟩⟩⟩⟩⟩
theorem fp5 : ∀ k, k < 19 → parseFieldDescriptor (FT5 k).2.2.1 = some (fy5 k) := by decide +kernel
theorem fn5 : ∀ a, a < 19 → ∀ b, b < 19 → a ≠ b → (FT5 a).2.1 ≠ (FT5 b).2.1 := by decide +kernel
theorem fv5 : ∀ j, j < 19 → defaultValue (fy5 j) = vp_V fd5 j := by decide +kernel
def FT6 : u_T := fun k => match k with
  | 0 => ("PackHouse$Packer", "settings", "[I", true)
  | 1 => ("PackHouse$Packer", "finder", "LPackHouse$Finder;", true)
  | 2 => ("PackHouse$Packer", "known", "[LPackHouse$Share;", true)
  | 3 => ("PackHouse$Packer", "ownCodes", "[LPackHouse$Codes;", true)
  | 4 => ("PackHouse$Packer", "ownTables", "[LPackHouse$Share;", true)
  | 5 => ("PackHouse$Packer", "otherTables", "[LPackHouse$Share;", true)
  | 6 => ("PackHouse$Packer", "now", "LPackHouse$Stand;", true)
  | 7 => ("PackHouse$Packer", "next", "LPackHouse$Stand;", true)
  | 8 => ("PackHouse$Packer", "packed", "LPackHouse$Row;", true)
  | 9 => ("PackHouse$Packer", "literals", "LPackHouse$Row;", true)
  | 10 => ("PackHouse$Packer", "told", "LPackHouse$Row;", true)
  | 11 => ("PackHouse$Packer", "byteCounts", "[I", true)
  | 12 => ("PackHouse$Packer", "symbolCounts", "[I", true)
  | 13 => ("PackHouse$Packer", "symbols", "[[I", false)
  | 14 => ("PackHouse$Packer", "numbers", "[I", false)
  | 15 => ("PackHouse$Packer", "leastCost", "I", false)
  | 16 => ("PackHouse$Packer", "wayOfLiterals", "I", false)
  | 17 => ("PackHouse$Packer", "modes", "[I", true)
  | _ => ("PackHouse$Packer", "counts", "[I", true)
def fy6 : Nat → FieldType := fun k => match k with
  | 0 => .array .int
  | 1 => .object "PackHouse$Finder"
  | 2 => .array (.object "PackHouse$Share")
  | 3 => .array (.object "PackHouse$Codes")
  | 4 => .array (.object "PackHouse$Share")
  | 5 => .array (.object "PackHouse$Share")
  | 6 => .object "PackHouse$Stand"
  | 7 => .object "PackHouse$Stand"
  | 8 => .object "PackHouse$Row"
  | 9 => .object "PackHouse$Row"
  | 10 => .object "PackHouse$Row"
  | 11 => .array .int
  | 12 => .array .int
  | 13 => .array (.array .int)
  | 14 => .array .int
  | 15 => .int
  | 16 => .int
  | 17 => .array .int
  | _ => .array .int
theorem fe6 : u_ws "PackHouse$Packer" FT6 19 = [Jvm.Cond.laysFinal "PackHouse$Packer" "PackHouse$Packer" "settings" "[I", Jvm.Cond.laysFinal "PackHouse$Packer" "PackHouse$Packer" "finder" "LPackHouse$Finder;", Jvm.Cond.laysFinal "PackHouse$Packer" "PackHouse$Packer" "known" "[LPackHouse$Share;", Jvm.Cond.laysFinal "PackHouse$Packer" "PackHouse$Packer" "ownCodes" "[LPackHouse$Codes;", Jvm.Cond.laysFinal "PackHouse$Packer" "PackHouse$Packer" "ownTables" "[LPackHouse$Share;", Jvm.Cond.laysFinal "PackHouse$Packer" "PackHouse$Packer" "otherTables" "[LPackHouse$Share;", Jvm.Cond.laysFinal "PackHouse$Packer" "PackHouse$Packer" "now" "LPackHouse$Stand;", Jvm.Cond.laysFinal "PackHouse$Packer" "PackHouse$Packer" "next" "LPackHouse$Stand;", Jvm.Cond.laysFinal "PackHouse$Packer" "PackHouse$Packer" "packed" "LPackHouse$Row;", Jvm.Cond.laysFinal "PackHouse$Packer" "PackHouse$Packer" "literals" "LPackHouse$Row;", Jvm.Cond.laysFinal "PackHouse$Packer" "PackHouse$Packer" "told" "LPackHouse$Row;", Jvm.Cond.laysFinal "PackHouse$Packer" "PackHouse$Packer" "byteCounts" "[I", Jvm.Cond.laysFinal "PackHouse$Packer" "PackHouse$Packer" "symbolCounts" "[I", Jvm.Cond.lays "PackHouse$Packer" "PackHouse$Packer" "symbols" "[[I", Jvm.Cond.lays "PackHouse$Packer" "PackHouse$Packer" "numbers" "[I", Jvm.Cond.lays "PackHouse$Packer" "PackHouse$Packer" "leastCost" "I", Jvm.Cond.lays "PackHouse$Packer" "PackHouse$Packer" "wayOfLiterals" "I", Jvm.Cond.laysFinal "PackHouse$Packer" "PackHouse$Packer" "modes" "[I", Jvm.Cond.laysFinal "PackHouse$Packer" "PackHouse$Packer" "counts" "[I"] := by decide +kernel
theorem fi6 : ∀ w ∈ u_ws "PackHouse$Packer" FT6 19, w ∈ rtbl := by
  rw [fe6]
  exact List.forall_mem_cons.mpr ⟨tw5 (List.mem_of_getElem? (i := 50) rfl) rfl, List.forall_mem_cons.mpr ⟨tw5 (List.mem_of_getElem? (i := 52) rfl) rfl, List.forall_mem_cons.mpr ⟨tw5 (List.mem_of_getElem? (i := 54) rfl) rfl, List.forall_mem_cons.mpr ⟨tw5 (List.mem_of_getElem? (i := 56) rfl) rfl, List.forall_mem_cons.mpr ⟨tw5 (List.mem_of_getElem? (i := 58) rfl) rfl, List.forall_mem_cons.mpr ⟨tw5 (List.mem_of_getElem? (i := 60) rfl) rfl, List.forall_mem_cons.mpr ⟨tw5 (List.mem_of_getElem? (i := 62) rfl) rfl, List.forall_mem_cons.mpr ⟨tw5 (List.mem_of_getElem? (i := 64) rfl) rfl, List.forall_mem_cons.mpr ⟨tw5 (List.mem_of_getElem? (i := 66) rfl) rfl, List.forall_mem_cons.mpr ⟨tw5 (List.mem_of_getElem? (i := 68) rfl) rfl, List.forall_mem_cons.mpr ⟨tw5 (List.mem_of_getElem? (i := 70) rfl) rfl, List.forall_mem_cons.mpr ⟨tw5 (List.mem_of_getElem? (i := 72) rfl) rfl, List.forall_mem_cons.mpr ⟨tw5 (List.mem_of_getElem? (i := 74) rfl) rfl, List.forall_mem_cons.mpr ⟨tw5 (List.mem_of_getElem? (i := 76) rfl) rfl, List.forall_mem_cons.mpr ⟨tw5 (List.mem_of_getElem? (i := 78) rfl) rfl, List.forall_mem_cons.mpr ⟨tw5 (List.mem_of_getElem? (i := 80) rfl) rfl, List.forall_mem_cons.mpr ⟨tw5 (List.mem_of_getElem? (i := 82) rfl) rfl, List.forall_mem_cons.mpr ⟨tw5 (List.mem_of_getElem? (i := 84) rfl) rfl, List.forall_mem_cons.mpr ⟨tw5 (List.mem_of_getElem? (i := 86) rfl) rfl, (fun _ h => absurd h List.not_mem_nil)⟩⟩⟩⟩⟩⟩⟩⟩⟩⟩⟩⟩⟩⟩⟩⟩⟩⟩⟩
theorem fp6 : ∀ k, k < 19 → parseFieldDescriptor (FT6 k).2.2.1 = some (fy6 k) := by decide +kernel
theorem fn6 : ∀ a, a < 19 → ∀ b, b < 19 → a ≠ b → (FT6 a).2.1 ≠ (FT6 b).2.1 := by decide +kernel
theorem fv6 : ∀ j, j < 19 → defaultValue (fy6 j) = vp_V fd6 j := by decide +kernel
def FT7 : u_T := fun k => match k with
  | 0 => ("PackHouse$Row", "bytes", "[B", false)
  | 1 => ("PackHouse$Row", "count", "I", false)
  | 2 => ("PackHouse$Row", "burst", "Z", false)
  | 3 => ("PackHouse$Row", "held", "I", false)
  | _ => ("PackHouse$Row", "heldBits", "I", false)
def fy7 : Nat → FieldType := fun k => match k with
  | 0 => .array .byte
  | 1 => .int
  | 2 => .boolean
  | 3 => .int
  | _ => .int
theorem fe7 : u_ws "PackHouse$Row" FT7 5 = [Jvm.Cond.lays "PackHouse$Row" "PackHouse$Row" "bytes" "[B", Jvm.Cond.lays "PackHouse$Row" "PackHouse$Row" "count" "I", Jvm.Cond.lays "PackHouse$Row" "PackHouse$Row" "burst" "Z", Jvm.Cond.lays "PackHouse$Row" "PackHouse$Row" "held" "I", Jvm.Cond.lays "PackHouse$Row" "PackHouse$Row" "heldBits" "I"] := by decide +kernel
theorem fi7 : ∀ w ∈ u_ws "PackHouse$Row" FT7 5, w ∈ rtbl := by
  rw [fe7]
  exact List.forall_mem_cons.mpr ⟨tw1 (List.mem_of_getElem? (i := 62) rfl) rfl, List.forall_mem_cons.mpr ⟨tw1 (List.mem_of_getElem? (i := 64) rfl) rfl, List.forall_mem_cons.mpr ⟨tw1 (List.mem_of_getElem? (i := 66) rfl) rfl, List.forall_mem_cons.mpr ⟨tw1 (List.mem_of_getElem? (i := 68) rfl) rfl, List.forall_mem_cons.mpr ⟨tw1 (List.mem_of_getElem? (i := 70) rfl) rfl, (fun _ h => absurd h List.not_mem_nil)⟩⟩⟩⟩⟩
theorem fp7 : ∀ k, k < 5 → parseFieldDescriptor (FT7 k).2.2.1 = some (fy7 k) := by decide +kernel
theorem fn7 : ∀ a, a < 5 → ∀ b, b < 5 → a ≠ b → (FT7 a).2.1 ≠ (FT7 b).2.1 := by decide +kernel
theorem fv7 : ∀ j, j < 5 → defaultValue (fy7 j) = vp_V fd7 j := by decide +kernel
def FT8 : u_T := fun k => match k with
  | 0 => ("PackHouse$Share", "order", "I", false)
  | 1 => ("PackHouse$Share", "symbols", "I", true)
  | 2 => ("PackHouse$Share", "points", "[I", true)
  | 3 => ("PackHouse$Share", "masses", "[I", true)
  | 4 => ("PackHouse$Share", "mostBits", "[I", true)
  | 5 => ("PackHouse$Share", "starts", "[I", true)
  | 6 => ("PackHouse$Share", "used", "[I", true)
  | 7 => ("PackHouse$Share", "symbolAt", "[I", true)
  | 8 => ("PackHouse$Share", "numberAt", "[I", true)
  | 9 => ("PackHouse$Share", "placeOf", "[I", true)
  | 10 => ("PackHouse$Share", "in", "[B", false)
  | 11 => ("PackHouse$Share", "bitAt", "I", false)
  | _ => ("PackHouse$Share", "bitEnd", "I", false)
def fy8 : Nat → FieldType := fun k => match k with
  | 0 => .int
  | 1 => .int
  | 2 => .array .int
  | 3 => .array .int
  | 4 => .array .int
  | 5 => .array .int
  | 6 => .array .int
  | 7 => .array .int
  | 8 => .array .int
  | 9 => .array .int
  | 10 => .array .byte
  | 11 => .int
  | _ => .int
theorem fe8 : u_ws "PackHouse$Share" FT8 13 = [Jvm.Cond.lays "PackHouse$Share" "PackHouse$Share" "order" "I", Jvm.Cond.laysFinal "PackHouse$Share" "PackHouse$Share" "symbols" "I", Jvm.Cond.laysFinal "PackHouse$Share" "PackHouse$Share" "points" "[I", Jvm.Cond.laysFinal "PackHouse$Share" "PackHouse$Share" "masses" "[I", Jvm.Cond.laysFinal "PackHouse$Share" "PackHouse$Share" "mostBits" "[I", Jvm.Cond.laysFinal "PackHouse$Share" "PackHouse$Share" "starts" "[I", Jvm.Cond.laysFinal "PackHouse$Share" "PackHouse$Share" "used" "[I", Jvm.Cond.laysFinal "PackHouse$Share" "PackHouse$Share" "symbolAt" "[I", Jvm.Cond.laysFinal "PackHouse$Share" "PackHouse$Share" "numberAt" "[I", Jvm.Cond.laysFinal "PackHouse$Share" "PackHouse$Share" "placeOf" "[I", Jvm.Cond.lays "PackHouse$Share" "PackHouse$Share" "in" "[B", Jvm.Cond.lays "PackHouse$Share" "PackHouse$Share" "bitAt" "I", Jvm.Cond.lays "PackHouse$Share" "PackHouse$Share" "bitEnd" "I"] := by decide +kernel
theorem fi8 : ∀ w ∈ u_ws "PackHouse$Share" FT8 13, w ∈ rtbl := by
  rw [fe8]
  exact List.forall_mem_cons.mpr ⟨tw2 (List.mem_of_getElem? (i := 179) rfl) rfl, List.forall_mem_cons.mpr ⟨tw2 (List.mem_of_getElem? (i := 181) rfl) rfl, List.forall_mem_cons.mpr ⟨tw2 (List.mem_of_getElem? (i := 183) rfl) rfl, List.forall_mem_cons.mpr ⟨tw2 (List.mem_of_getElem? (i := 185) rfl) rfl, List.forall_mem_cons.mpr ⟨tw2 (List.mem_of_getElem? (i := 187) rfl) rfl, List.forall_mem_cons.mpr ⟨tw2 (List.mem_of_getElem? (i := 189) rfl) rfl, List.forall_mem_cons.mpr ⟨tw2 (List.mem_of_getElem? (i := 191) rfl) rfl, List.forall_mem_cons.mpr ⟨tw2 (List.mem_of_getElem? (i := 193) rfl) rfl, List.forall_mem_cons.mpr ⟨tw2 (List.mem_of_getElem? (i := 195) rfl) rfl, List.forall_mem_cons.mpr ⟨tw2 (List.mem_of_getElem? (i := 197) rfl) rfl, List.forall_mem_cons.mpr ⟨tw2 (List.mem_of_getElem? (i := 199) rfl) rfl, List.forall_mem_cons.mpr ⟨tw2 (List.mem_of_getElem? (i := 201) rfl) rfl, List.forall_mem_cons.mpr ⟨tw2 (List.mem_of_getElem? (i := 203) rfl) rfl, (fun _ h => absurd h List.not_mem_nil)⟩⟩⟩⟩⟩⟩⟩⟩⟩⟩⟩⟩⟩
theorem fp8 : ∀ k, k < 13 → parseFieldDescriptor (FT8 k).2.2.1 = some (fy8 k) := by decide +kernel
theorem fn8 : ∀ a, a < 13 → ∀ b, b < 13 → a ≠ b → (FT8 a).2.1 ≠ (FT8 b).2.1 := by decide +kernel
theorem fv8 : ∀ j, j < 13 → defaultValue (fy8 j) = vp_V fd8 j := by decide +kernel
def FT9 : u_T := fun k => match k with
  | 0 => ("PackHouse$Stand", "codes", "LPackHouse$Codes;", false)
  | 1 => ("PackHouse$Stand", "tables", "[LPackHouse$Share;", true)
  | _ => ("PackHouse$Stand", "latest", "[J", true)
def fy9 : Nat → FieldType := fun k => match k with
  | 0 => .object "PackHouse$Codes"
  | 1 => .array (.object "PackHouse$Share")
  | _ => .array .long
theorem fe9 : u_ws "PackHouse$Stand" FT9 3 = [Jvm.Cond.lays "PackHouse$Stand" "PackHouse$Stand" "codes" "LPackHouse$Codes;", Jvm.Cond.laysFinal "PackHouse$Stand" "PackHouse$Stand" "tables" "[LPackHouse$Share;", Jvm.Cond.laysFinal "PackHouse$Stand" "PackHouse$Stand" "latest" "[J"] := by decide +kernel
theorem fi9 : ∀ w ∈ u_ws "PackHouse$Stand" FT9 3, w ∈ rtbl := by
  rw [fe9]
  exact List.forall_mem_cons.mpr ⟨tw1 (List.mem_of_getElem? (i := 103) rfl) rfl, List.forall_mem_cons.mpr ⟨tw1 (List.mem_of_getElem? (i := 105) rfl) rfl, List.forall_mem_cons.mpr ⟨tw1 (List.mem_of_getElem? (i := 107) rfl) rfl, (fun _ h => absurd h List.not_mem_nil)⟩⟩⟩
theorem fp9 : ∀ k, k < 3 → parseFieldDescriptor (FT9 k).2.2.1 = some (fy9 k) := by decide +kernel
theorem fn9 : ∀ a, a < 3 → ∀ b, b < 3 → a ≠ b → (FT9 a).2.1 ≠ (FT9 b).2.1 := by decide +kernel
theorem fv9 : ∀ j, j < 3 → defaultValue (fy9 j) = vp_V fd9 j := by decide +kernel
def FT10 : u_T := fun k => match k with
  | 0 => ("PackHouse$Tags", "settings", "[I", true)
  | 1 => ("PackHouse$Tags", "finder", "LPackHouse$Finder;", true)
  | 2 => ("PackHouse$Tags", "packed", "LPackHouse$Row;", true)
  | 3 => ("PackHouse$Tags", "in", "[B", false)
  | 4 => ("PackHouse$Tags", "stop", "I", false)
  | 5 => ("PackHouse$Tags", "result", "LPackHouse$Row;", false)
  | 6 => ("PackHouse$Tags", "most", "I", false)
  | 7 => ("PackHouse$Tags", "length", "J", false)
  | _ => ("PackHouse$Tags", "place", "I", false)
def fy10 : Nat → FieldType := fun k => match k with
  | 0 => .array .int
  | 1 => .object "PackHouse$Finder"
  | 2 => .object "PackHouse$Row"
  | 3 => .array .byte
  | 4 => .int
  | 5 => .object "PackHouse$Row"
  | 6 => .int
  | 7 => .long
  | _ => .int
theorem fe10 : u_ws "PackHouse$Tags" FT10 9 = [Jvm.Cond.laysFinal "PackHouse$Tags" "PackHouse$Tags" "settings" "[I", Jvm.Cond.laysFinal "PackHouse$Tags" "PackHouse$Tags" "finder" "LPackHouse$Finder;", Jvm.Cond.laysFinal "PackHouse$Tags" "PackHouse$Tags" "packed" "LPackHouse$Row;", Jvm.Cond.lays "PackHouse$Tags" "PackHouse$Tags" "in" "[B", Jvm.Cond.lays "PackHouse$Tags" "PackHouse$Tags" "stop" "I", Jvm.Cond.lays "PackHouse$Tags" "PackHouse$Tags" "result" "LPackHouse$Row;", Jvm.Cond.lays "PackHouse$Tags" "PackHouse$Tags" "most" "I", Jvm.Cond.lays "PackHouse$Tags" "PackHouse$Tags" "length" "J", Jvm.Cond.lays "PackHouse$Tags" "PackHouse$Tags" "place" "I"] := by decide +kernel
theorem fi10 : ∀ w ∈ u_ws "PackHouse$Tags" FT10 9, w ∈ rtbl := by
  rw [fe10]
  exact List.forall_mem_cons.mpr ⟨tw4 (List.mem_of_getElem? (i := 162) rfl) rfl, List.forall_mem_cons.mpr ⟨tw4 (List.mem_of_getElem? (i := 164) rfl) rfl, List.forall_mem_cons.mpr ⟨tw4 (List.mem_of_getElem? (i := 166) rfl) rfl, List.forall_mem_cons.mpr ⟨tw4 (List.mem_of_getElem? (i := 168) rfl) rfl, List.forall_mem_cons.mpr ⟨tw4 (List.mem_of_getElem? (i := 170) rfl) rfl, List.forall_mem_cons.mpr ⟨tw4 (List.mem_of_getElem? (i := 172) rfl) rfl, List.forall_mem_cons.mpr ⟨tw4 (List.mem_of_getElem? (i := 174) rfl) rfl, List.forall_mem_cons.mpr ⟨tw4 (List.mem_of_getElem? (i := 176) rfl) rfl, List.forall_mem_cons.mpr ⟨tw4 (List.mem_of_getElem? (i := 178) rfl) rfl, (fun _ h => absurd h List.not_mem_nil)⟩⟩⟩⟩⟩⟩⟩⟩⟩
theorem fp10 : ∀ k, k < 9 → parseFieldDescriptor (FT10 k).2.2.1 = some (fy10 k) := by decide +kernel
theorem fn10 : ∀ a, a < 9 → ∀ b, b < 9 → a ≠ b → (FT10 a).2.1 ≠ (FT10 b).2.1 := by decide +kernel
theorem fv10 : ∀ j, j < 9 → defaultValue (fy10 j) = vp_V fd10 j := by decide +kernel
def FT11 : u_T := fun k => match k with
  | 0 => ("PackHouse$Tokens", "settings", "[I", true)
  | 1 => ("PackHouse$Tokens", "past", "LPackHouse$Row;", true)
  | 2 => ("PackHouse$Tokens", "finder", "LPackHouse$Finder;", true)
  | 3 => ("PackHouse$Tokens", "packed", "LPackHouse$Row;", true)
  | 4 => ("PackHouse$Tokens", "in", "[B", false)
  | 5 => ("PackHouse$Tokens", "stop", "I", false)
  | 6 => ("PackHouse$Tokens", "result", "LPackHouse$Row;", false)
  | 7 => ("PackHouse$Tokens", "most", "I", false)
  | 8 => ("PackHouse$Tokens", "flags", "I", false)
  | 9 => ("PackHouse$Tokens", "blockMost", "I", false)
  | 10 => ("PackHouse$Tokens", "contentBegin", "I", false)
  | 11 => ("PackHouse$Tokens", "sum", "I", false)
  | _ => ("PackHouse$Tokens", "place", "I", false)
def fy11 : Nat → FieldType := fun k => match k with
  | 0 => .array .int
  | 1 => .object "PackHouse$Row"
  | 2 => .object "PackHouse$Finder"
  | 3 => .object "PackHouse$Row"
  | 4 => .array .byte
  | 5 => .int
  | 6 => .object "PackHouse$Row"
  | 7 => .int
  | 8 => .int
  | 9 => .int
  | 10 => .int
  | 11 => .int
  | _ => .int
theorem fe11 : u_ws "PackHouse$Tokens" FT11 13 = [Jvm.Cond.laysFinal "PackHouse$Tokens" "PackHouse$Tokens" "settings" "[I", Jvm.Cond.laysFinal "PackHouse$Tokens" "PackHouse$Tokens" "past" "LPackHouse$Row;", Jvm.Cond.laysFinal "PackHouse$Tokens" "PackHouse$Tokens" "finder" "LPackHouse$Finder;", Jvm.Cond.laysFinal "PackHouse$Tokens" "PackHouse$Tokens" "packed" "LPackHouse$Row;", Jvm.Cond.lays "PackHouse$Tokens" "PackHouse$Tokens" "in" "[B", Jvm.Cond.lays "PackHouse$Tokens" "PackHouse$Tokens" "stop" "I", Jvm.Cond.lays "PackHouse$Tokens" "PackHouse$Tokens" "result" "LPackHouse$Row;", Jvm.Cond.lays "PackHouse$Tokens" "PackHouse$Tokens" "most" "I", Jvm.Cond.lays "PackHouse$Tokens" "PackHouse$Tokens" "flags" "I", Jvm.Cond.lays "PackHouse$Tokens" "PackHouse$Tokens" "blockMost" "I", Jvm.Cond.lays "PackHouse$Tokens" "PackHouse$Tokens" "contentBegin" "I", Jvm.Cond.lays "PackHouse$Tokens" "PackHouse$Tokens" "sum" "I", Jvm.Cond.lays "PackHouse$Tokens" "PackHouse$Tokens" "place" "I"] := by decide +kernel
theorem fi11 : ∀ w ∈ u_ws "PackHouse$Tokens" FT11 13, w ∈ rtbl := by
  rw [fe11]
  exact List.forall_mem_cons.mpr ⟨tw4 (List.mem_of_getElem? (i := 14) rfl) rfl, List.forall_mem_cons.mpr ⟨tw4 (List.mem_of_getElem? (i := 16) rfl) rfl, List.forall_mem_cons.mpr ⟨tw4 (List.mem_of_getElem? (i := 18) rfl) rfl, List.forall_mem_cons.mpr ⟨tw4 (List.mem_of_getElem? (i := 20) rfl) rfl, List.forall_mem_cons.mpr ⟨tw4 (List.mem_of_getElem? (i := 22) rfl) rfl, List.forall_mem_cons.mpr ⟨tw4 (List.mem_of_getElem? (i := 24) rfl) rfl, List.forall_mem_cons.mpr ⟨tw4 (List.mem_of_getElem? (i := 26) rfl) rfl, List.forall_mem_cons.mpr ⟨tw4 (List.mem_of_getElem? (i := 28) rfl) rfl, List.forall_mem_cons.mpr ⟨tw4 (List.mem_of_getElem? (i := 30) rfl) rfl, List.forall_mem_cons.mpr ⟨tw4 (List.mem_of_getElem? (i := 32) rfl) rfl, List.forall_mem_cons.mpr ⟨tw4 (List.mem_of_getElem? (i := 34) rfl) rfl, List.forall_mem_cons.mpr ⟨tw4 (List.mem_of_getElem? (i := 36) rfl) rfl, List.forall_mem_cons.mpr ⟨tw4 (List.mem_of_getElem? (i := 38) rfl) rfl, (fun _ h => absurd h List.not_mem_nil)⟩⟩⟩⟩⟩⟩⟩⟩⟩⟩⟩⟩⟩
theorem fp11 : ∀ k, k < 13 → parseFieldDescriptor (FT11 k).2.2.1 = some (fy11 k) := by decide +kernel
theorem fn11 : ∀ a, a < 13 → ∀ b, b < 13 → a ≠ b → (FT11 a).2.1 ≠ (FT11 b).2.1 := by decide +kernel
theorem fv11 : ∀ j, j < 13 → defaultValue (fy11 j) = vp_V fd11 j := by decide +kernel
def FT12 : u_T := fun k => match k with
  | 0 => ("PackHouse$Unpacker", "known", "[LPackHouse$Share;", true)
  | 1 => ("PackHouse$Unpacker", "ownCodes", "LPackHouse$Codes;", true)
  | 2 => ("PackHouse$Unpacker", "ownTables", "[LPackHouse$Share;", true)
  | 3 => ("PackHouse$Unpacker", "now", "LPackHouse$Stand;", true)
  | 4 => ("PackHouse$Unpacker", "literals", "LPackHouse$Row;", true)
  | 5 => ("PackHouse$Unpacker", "source", "LPackHouse$BitSource;", true)
  | 6 => ("PackHouse$Unpacker", "states", "[I", true)
  | 7 => ("PackHouse$Unpacker", "in", "[B", false)
  | 8 => ("PackHouse$Unpacker", "stop", "I", false)
  | 9 => ("PackHouse$Unpacker", "at", "I", false)
  | 10 => ("PackHouse$Unpacker", "result", "LPackHouse$Row;", false)
  | 11 => ("PackHouse$Unpacker", "most", "I", false)
  | 12 => ("PackHouse$Unpacker", "dictionary", "LPackHouse$Dictionary;", false)
  | 13 => ("PackHouse$Unpacker", "counts", "[I", false)
  | 14 => ("PackHouse$Unpacker", "head", "I", false)
  | 15 => ("PackHouse$Unpacker", "window", "J", false)
  | 16 => ("PackHouse$Unpacker", "sizeAt", "I", false)
  | 17 => ("PackHouse$Unpacker", "contentBegin", "I", false)
  | 18 => ("PackHouse$Unpacker", "blockEnd", "I", false)
  | 19 => ("PackHouse$Unpacker", "literalCount", "I", false)
  | 20 => ("PackHouse$Unpacker", "literalAt", "I", false)
  | _ => ("PackHouse$Unpacker", "place", "I", false)
def fy12 : Nat → FieldType := fun k => match k with
  | 0 => .array (.object "PackHouse$Share")
  | 1 => .object "PackHouse$Codes"
  | 2 => .array (.object "PackHouse$Share")
  | 3 => .object "PackHouse$Stand"
  | 4 => .object "PackHouse$Row"
  | 5 => .object "PackHouse$BitSource"
  | 6 => .array .int
  | 7 => .array .byte
  | 8 => .int
  | 9 => .int
  | 10 => .object "PackHouse$Row"
  | 11 => .int
  | 12 => .object "PackHouse$Dictionary"
  | 13 => .array .int
  | 14 => .int
  | 15 => .long
  | 16 => .int
  | 17 => .int
  | 18 => .int
  | 19 => .int
  | 20 => .int
  | _ => .int
theorem fe12 : u_ws "PackHouse$Unpacker" FT12 22 = [Jvm.Cond.laysFinal "PackHouse$Unpacker" "PackHouse$Unpacker" "known" "[LPackHouse$Share;", Jvm.Cond.laysFinal "PackHouse$Unpacker" "PackHouse$Unpacker" "ownCodes" "LPackHouse$Codes;", Jvm.Cond.laysFinal "PackHouse$Unpacker" "PackHouse$Unpacker" "ownTables" "[LPackHouse$Share;", Jvm.Cond.laysFinal "PackHouse$Unpacker" "PackHouse$Unpacker" "now" "LPackHouse$Stand;", Jvm.Cond.laysFinal "PackHouse$Unpacker" "PackHouse$Unpacker" "literals" "LPackHouse$Row;", Jvm.Cond.laysFinal "PackHouse$Unpacker" "PackHouse$Unpacker" "source" "LPackHouse$BitSource;", Jvm.Cond.laysFinal "PackHouse$Unpacker" "PackHouse$Unpacker" "states" "[I", Jvm.Cond.lays "PackHouse$Unpacker" "PackHouse$Unpacker" "in" "[B", Jvm.Cond.lays "PackHouse$Unpacker" "PackHouse$Unpacker" "stop" "I", Jvm.Cond.lays "PackHouse$Unpacker" "PackHouse$Unpacker" "at" "I", Jvm.Cond.lays "PackHouse$Unpacker" "PackHouse$Unpacker" "result" "LPackHouse$Row;", Jvm.Cond.lays "PackHouse$Unpacker" "PackHouse$Unpacker" "most" "I", Jvm.Cond.lays "PackHouse$Unpacker" "PackHouse$Unpacker" "dictionary" "LPackHouse$Dictionary;", Jvm.Cond.lays "PackHouse$Unpacker" "PackHouse$Unpacker" "counts" "[I", Jvm.Cond.lays "PackHouse$Unpacker" "PackHouse$Unpacker" "head" "I", Jvm.Cond.lays "PackHouse$Unpacker" "PackHouse$Unpacker" "window" "J", Jvm.Cond.lays "PackHouse$Unpacker" "PackHouse$Unpacker" "sizeAt" "I", Jvm.Cond.lays "PackHouse$Unpacker" "PackHouse$Unpacker" "contentBegin" "I", Jvm.Cond.lays "PackHouse$Unpacker" "PackHouse$Unpacker" "blockEnd" "I", Jvm.Cond.lays "PackHouse$Unpacker" "PackHouse$Unpacker" "literalCount" "I", Jvm.Cond.lays "PackHouse$Unpacker" "PackHouse$Unpacker" "literalAt" "I", Jvm.Cond.lays "PackHouse$Unpacker" "PackHouse$Unpacker" "place" "I"] := by decide +kernel
theorem fi12 : ∀ w ∈ u_ws "PackHouse$Unpacker" FT12 22, w ∈ rtbl := by
  rw [fe12]
  exact List.forall_mem_cons.mpr ⟨tw7 (List.mem_of_getElem? (i := 4) rfl) rfl, List.forall_mem_cons.mpr ⟨tw7 (List.mem_of_getElem? (i := 6) rfl) rfl, List.forall_mem_cons.mpr ⟨tw7 (List.mem_of_getElem? (i := 8) rfl) rfl, List.forall_mem_cons.mpr ⟨tw7 (List.mem_of_getElem? (i := 10) rfl) rfl, List.forall_mem_cons.mpr ⟨tw7 (List.mem_of_getElem? (i := 12) rfl) rfl, List.forall_mem_cons.mpr ⟨tw7 (List.mem_of_getElem? (i := 14) rfl) rfl, List.forall_mem_cons.mpr ⟨tw7 (List.mem_of_getElem? (i := 16) rfl) rfl, List.forall_mem_cons.mpr ⟨tw7 (List.mem_of_getElem? (i := 18) rfl) rfl, List.forall_mem_cons.mpr ⟨tw7 (List.mem_of_getElem? (i := 20) rfl) rfl, List.forall_mem_cons.mpr ⟨tw7 (List.mem_of_getElem? (i := 22) rfl) rfl, List.forall_mem_cons.mpr ⟨tw7 (List.mem_of_getElem? (i := 24) rfl) rfl, List.forall_mem_cons.mpr ⟨tw7 (List.mem_of_getElem? (i := 26) rfl) rfl, List.forall_mem_cons.mpr ⟨tw7 (List.mem_of_getElem? (i := 28) rfl) rfl, List.forall_mem_cons.mpr ⟨tw7 (List.mem_of_getElem? (i := 30) rfl) rfl, List.forall_mem_cons.mpr ⟨tw7 (List.mem_of_getElem? (i := 32) rfl) rfl, List.forall_mem_cons.mpr ⟨tw7 (List.mem_of_getElem? (i := 34) rfl) rfl, List.forall_mem_cons.mpr ⟨tw7 (List.mem_of_getElem? (i := 36) rfl) rfl, List.forall_mem_cons.mpr ⟨tw7 (List.mem_of_getElem? (i := 38) rfl) rfl, List.forall_mem_cons.mpr ⟨tw7 (List.mem_of_getElem? (i := 40) rfl) rfl, List.forall_mem_cons.mpr ⟨tw7 (List.mem_of_getElem? (i := 42) rfl) rfl, List.forall_mem_cons.mpr ⟨tw7 (List.mem_of_getElem? (i := 44) rfl) rfl, List.forall_mem_cons.mpr ⟨tw7 (List.mem_of_getElem? (i := 46) rfl) rfl, (fun _ h => absurd h List.not_mem_nil)⟩⟩⟩⟩⟩⟩⟩⟩⟩⟩⟩⟩⟩⟩⟩⟩⟩⟩⟩⟩⟩⟩
theorem fp12 : ∀ k, k < 22 → parseFieldDescriptor (FT12 k).2.2.1 = some (fy12 k) := by decide +kernel
theorem fn12 : ∀ a, a < 22 → ∀ b, b < 22 → a ≠ b → (FT12 a).2.1 ≠ (FT12 b).2.1 := by decide +kernel
theorem fv12 : ∀ j, j < 22 → defaultValue (fy12 j) = vp_V fd12 j := by decide +kernel
def FT13 : u_T := fun k => match k with
  | 0 => ("PackHouseModel$Desk", "in", "[I", true)
  | 1 => ("PackHouseModel$Desk", "inSize", "I", false)
  | 2 => ("PackHouseModel$Desk", "out", "[I", true)
  | 3 => ("PackHouseModel$Desk", "outSize", "I", false)
  | _ => ("PackHouseModel$Desk", "place", "I", false)
def fy13 : Nat → FieldType := fun k => match k with
  | 0 => .array .int
  | 1 => .int
  | 2 => .array .int
  | 3 => .int
  | _ => .int
theorem fe13 : u_ws "PackHouseModel$Desk" FT13 5 = [Jvm.Cond.laysFinal "PackHouseModel$Desk" "PackHouseModel$Desk" "in" "[I", Jvm.Cond.lays "PackHouseModel$Desk" "PackHouseModel$Desk" "inSize" "I", Jvm.Cond.laysFinal "PackHouseModel$Desk" "PackHouseModel$Desk" "out" "[I", Jvm.Cond.lays "PackHouseModel$Desk" "PackHouseModel$Desk" "outSize" "I", Jvm.Cond.lays "PackHouseModel$Desk" "PackHouseModel$Desk" "place" "I"] := by decide +kernel
theorem fi13 : ∀ w ∈ u_ws "PackHouseModel$Desk" FT13 5, w ∈ rtbl := by
  rw [fe13]
  exact List.forall_mem_cons.mpr ⟨tw8 (List.mem_of_getElem? (i := 21) rfl) rfl, List.forall_mem_cons.mpr ⟨tw8 (List.mem_of_getElem? (i := 23) rfl) rfl, List.forall_mem_cons.mpr ⟨tw8 (List.mem_of_getElem? (i := 25) rfl) rfl, List.forall_mem_cons.mpr ⟨tw8 (List.mem_of_getElem? (i := 27) rfl) rfl, List.forall_mem_cons.mpr ⟨tw8 (List.mem_of_getElem? (i := 29) rfl) rfl, (fun _ h => absurd h List.not_mem_nil)⟩⟩⟩⟩⟩
theorem fp13 : ∀ k, k < 5 → parseFieldDescriptor (FT13 k).2.2.1 = some (fy13 k) := by decide +kernel
theorem fn13 : ∀ a, a < 5 → ∀ b, b < 5 → a ≠ b → (FT13 a).2.1 ≠ (FT13 b).2.1 := by decide +kernel
theorem fv13 : ∀ j, j < 5 → defaultValue (fy13 j) = vp_V fd13 j := by decide +kernel
def FT14 : u_T := fun k => match k with
  | 0 => ("PackHouseModel$Reader", "desk", "LPackHouseModel$Desk;", true)
  | 1 => ("PackHouseModel$Reader", "dictionary", "[I", true)
  | 2 => ("PackHouseModel$Reader", "dictionarySize", "I", false)
  | 3 => ("PackHouseModel$Reader", "dictionaryId", "I", false)
  | 4 => ("PackHouseModel$Reader", "formed", "Z", false)
  | 5 => ("PackHouseModel$Reader", "dictionaryLengths", "[I", true)
  | 6 => ("PackHouseModel$Reader", "dictionaryPoints", "[I", true)
  | 7 => ("PackHouseModel$Reader", "dictionaryOrders", "[I", true)
  | 8 => ("PackHouseModel$Reader", "dictionaryLatest", "[J", true)
  | 9 => ("PackHouseModel$Reader", "lengths", "[I", true)
  | 10 => ("PackHouseModel$Reader", "top", "I", false)
  | 11 => ("PackHouseModel$Reader", "cells", "[I", true)
  | 12 => ("PackHouseModel$Reader", "points", "[I", true)
  | 13 => ("PackHouseModel$Reader", "orders", "[I", true)
  | 14 => ("PackHouseModel$Reader", "symbols", "[I", true)
  | 15 => ("PackHouseModel$Reader", "bits", "[I", true)
  | 16 => ("PackHouseModel$Reader", "bases", "[I", true)
  | 17 => ("PackHouseModel$Reader", "latest", "[J", true)
  | 18 => ("PackHouseModel$Reader", "draft", "[I", true)
  | 19 => ("PackHouseModel$Reader", "draftOrder", "I", false)
  | 20 => ("PackHouseModel$Reader", "weights", "[I", true)
  | 21 => ("PackHouseModel$Reader", "seen", "[I", true)
  | 22 => ("PackHouseModel$Reader", "weightSymbols", "[I", true)
  | 23 => ("PackHouseModel$Reader", "weightBits", "[I", true)
  | 24 => ("PackHouseModel$Reader", "weightBases", "[I", true)
  | 25 => ("PackHouseModel$Reader", "at", "I", false)
  | 26 => ("PackHouseModel$Reader", "most", "I", false)
  | 27 => ("PackHouseModel$Reader", "had", "I", false)
  | 28 => ("PackHouseModel$Reader", "begins", "I", false)
  | 29 => ("PackHouseModel$Reader", "mostOfBlock", "I", false)
  | 30 => ("PackHouseModel$Reader", "fault", "I", false)
  | 31 => ("PackHouseModel$Reader", "where", "I", false)
  | 32 => ("PackHouseModel$Reader", "heads", "I", false)
  | 33 => ("PackHouseModel$Reader", "blocks", "I", false)
  | 34 => ("PackHouseModel$Reader", "done", "I", false)
  | 35 => ("PackHouseModel$Reader", "window", "J", false)
  | 36 => ("PackHouseModel$Reader", "told", "I", false)
  | 37 => ("PackHouseModel$Reader", "content", "[I", true)
  | 38 => ("PackHouseModel$Reader", "literals", "[I", true)
  | 39 => ("PackHouseModel$Reader", "many", "I", false)
  | 40 => ("PackHouseModel$Reader", "used", "I", false)
  | 41 => ("PackHouseModel$Reader", "states0", "I", false)
  | 42 => ("PackHouseModel$Reader", "states1", "I", false)
  | 43 => ("PackHouseModel$Reader", "states2", "I", false)
  | 44 => ("PackHouseModel$Reader", "stream", "I", false)
  | 45 => ("PackHouseModel$Reader", "left", "I", false)
  | _ => ("PackHouseModel$Reader", "lanes", "[J", true)
def fy14 : Nat → FieldType := fun k => match k with
  | 0 => .object "PackHouseModel$Desk"
  | 1 => .array .int
  | 2 => .int
  | 3 => .int
  | 4 => .boolean
  | 5 => .array .int
  | 6 => .array .int
  | 7 => .array .int
  | 8 => .array .long
  | 9 => .array .int
  | 10 => .int
  | 11 => .array .int
  | 12 => .array .int
  | 13 => .array .int
  | 14 => .array .int
  | 15 => .array .int
  | 16 => .array .int
  | 17 => .array .long
  | 18 => .array .int
  | 19 => .int
  | 20 => .array .int
  | 21 => .array .int
  | 22 => .array .int
  | 23 => .array .int
  | 24 => .array .int
  | 25 => .int
  | 26 => .int
  | 27 => .int
  | 28 => .int
  | 29 => .int
  | 30 => .int
  | 31 => .int
  | 32 => .int
  | 33 => .int
  | 34 => .int
  | 35 => .long
  | 36 => .int
  | 37 => .array .int
  | 38 => .array .int
  | 39 => .int
  | 40 => .int
  | 41 => .int
  | 42 => .int
  | 43 => .int
  | 44 => .int
  | 45 => .int
  | _ => .array .long
theorem fe14 : u_ws "PackHouseModel$Reader" FT14 47 = [Jvm.Cond.laysFinal "PackHouseModel$Reader" "PackHouseModel$Reader" "desk" "LPackHouseModel$Desk;", Jvm.Cond.laysFinal "PackHouseModel$Reader" "PackHouseModel$Reader" "dictionary" "[I", Jvm.Cond.lays "PackHouseModel$Reader" "PackHouseModel$Reader" "dictionarySize" "I", Jvm.Cond.lays "PackHouseModel$Reader" "PackHouseModel$Reader" "dictionaryId" "I", Jvm.Cond.lays "PackHouseModel$Reader" "PackHouseModel$Reader" "formed" "Z", Jvm.Cond.laysFinal "PackHouseModel$Reader" "PackHouseModel$Reader" "dictionaryLengths" "[I", Jvm.Cond.laysFinal "PackHouseModel$Reader" "PackHouseModel$Reader" "dictionaryPoints" "[I", Jvm.Cond.laysFinal "PackHouseModel$Reader" "PackHouseModel$Reader" "dictionaryOrders" "[I", Jvm.Cond.laysFinal "PackHouseModel$Reader" "PackHouseModel$Reader" "dictionaryLatest" "[J", Jvm.Cond.laysFinal "PackHouseModel$Reader" "PackHouseModel$Reader" "lengths" "[I", Jvm.Cond.lays "PackHouseModel$Reader" "PackHouseModel$Reader" "top" "I", Jvm.Cond.laysFinal "PackHouseModel$Reader" "PackHouseModel$Reader" "cells" "[I", Jvm.Cond.laysFinal "PackHouseModel$Reader" "PackHouseModel$Reader" "points" "[I", Jvm.Cond.laysFinal "PackHouseModel$Reader" "PackHouseModel$Reader" "orders" "[I", Jvm.Cond.laysFinal "PackHouseModel$Reader" "PackHouseModel$Reader" "symbols" "[I", Jvm.Cond.laysFinal "PackHouseModel$Reader" "PackHouseModel$Reader" "bits" "[I", Jvm.Cond.laysFinal "PackHouseModel$Reader" "PackHouseModel$Reader" "bases" "[I", Jvm.Cond.laysFinal "PackHouseModel$Reader" "PackHouseModel$Reader" "latest" "[J", Jvm.Cond.laysFinal "PackHouseModel$Reader" "PackHouseModel$Reader" "draft" "[I", Jvm.Cond.lays "PackHouseModel$Reader" "PackHouseModel$Reader" "draftOrder" "I", Jvm.Cond.laysFinal "PackHouseModel$Reader" "PackHouseModel$Reader" "weights" "[I", Jvm.Cond.laysFinal "PackHouseModel$Reader" "PackHouseModel$Reader" "seen" "[I", Jvm.Cond.laysFinal "PackHouseModel$Reader" "PackHouseModel$Reader" "weightSymbols" "[I", Jvm.Cond.laysFinal "PackHouseModel$Reader" "PackHouseModel$Reader" "weightBits" "[I", Jvm.Cond.laysFinal "PackHouseModel$Reader" "PackHouseModel$Reader" "weightBases" "[I", Jvm.Cond.lays "PackHouseModel$Reader" "PackHouseModel$Reader" "at" "I", Jvm.Cond.lays "PackHouseModel$Reader" "PackHouseModel$Reader" "most" "I", Jvm.Cond.lays "PackHouseModel$Reader" "PackHouseModel$Reader" "had" "I", Jvm.Cond.lays "PackHouseModel$Reader" "PackHouseModel$Reader" "begins" "I", Jvm.Cond.lays "PackHouseModel$Reader" "PackHouseModel$Reader" "mostOfBlock" "I", Jvm.Cond.lays "PackHouseModel$Reader" "PackHouseModel$Reader" "fault" "I", Jvm.Cond.lays "PackHouseModel$Reader" "PackHouseModel$Reader" "where" "I", Jvm.Cond.lays "PackHouseModel$Reader" "PackHouseModel$Reader" "heads" "I", Jvm.Cond.lays "PackHouseModel$Reader" "PackHouseModel$Reader" "blocks" "I", Jvm.Cond.lays "PackHouseModel$Reader" "PackHouseModel$Reader" "done" "I", Jvm.Cond.lays "PackHouseModel$Reader" "PackHouseModel$Reader" "window" "J", Jvm.Cond.lays "PackHouseModel$Reader" "PackHouseModel$Reader" "told" "I", Jvm.Cond.laysFinal "PackHouseModel$Reader" "PackHouseModel$Reader" "content" "[I", Jvm.Cond.laysFinal "PackHouseModel$Reader" "PackHouseModel$Reader" "literals" "[I", Jvm.Cond.lays "PackHouseModel$Reader" "PackHouseModel$Reader" "many" "I", Jvm.Cond.lays "PackHouseModel$Reader" "PackHouseModel$Reader" "used" "I", Jvm.Cond.lays "PackHouseModel$Reader" "PackHouseModel$Reader" "states0" "I", Jvm.Cond.lays "PackHouseModel$Reader" "PackHouseModel$Reader" "states1" "I", Jvm.Cond.lays "PackHouseModel$Reader" "PackHouseModel$Reader" "states2" "I", Jvm.Cond.lays "PackHouseModel$Reader" "PackHouseModel$Reader" "stream" "I", Jvm.Cond.lays "PackHouseModel$Reader" "PackHouseModel$Reader" "left" "I", Jvm.Cond.laysFinal "PackHouseModel$Reader" "PackHouseModel$Reader" "lanes" "[J"] := by decide +kernel
theorem fi14 : ∀ w ∈ u_ws "PackHouseModel$Reader" FT14 47, w ∈ rtbl := by
  rw [fe14]
  exact List.forall_mem_cons.mpr ⟨tw8 (List.mem_of_getElem? (i := 222) rfl) rfl, List.forall_mem_cons.mpr ⟨tw8 (List.mem_of_getElem? (i := 224) rfl) rfl, List.forall_mem_cons.mpr ⟨tw8 (List.mem_of_getElem? (i := 226) rfl) rfl, List.forall_mem_cons.mpr ⟨tw8 (List.mem_of_getElem? (i := 228) rfl) rfl, List.forall_mem_cons.mpr ⟨tw8 (List.mem_of_getElem? (i := 230) rfl) rfl, List.forall_mem_cons.mpr ⟨tw8 (List.mem_of_getElem? (i := 232) rfl) rfl, List.forall_mem_cons.mpr ⟨tw8 (List.mem_of_getElem? (i := 234) rfl) rfl, List.forall_mem_cons.mpr ⟨tw8 (List.mem_of_getElem? (i := 236) rfl) rfl, List.forall_mem_cons.mpr ⟨tw8 (List.mem_of_getElem? (i := 238) rfl) rfl, List.forall_mem_cons.mpr ⟨tw9 (List.mem_of_getElem? (i := 0) rfl) rfl, List.forall_mem_cons.mpr ⟨tw9 (List.mem_of_getElem? (i := 2) rfl) rfl, List.forall_mem_cons.mpr ⟨tw9 (List.mem_of_getElem? (i := 4) rfl) rfl, List.forall_mem_cons.mpr ⟨tw9 (List.mem_of_getElem? (i := 6) rfl) rfl, List.forall_mem_cons.mpr ⟨tw9 (List.mem_of_getElem? (i := 8) rfl) rfl, List.forall_mem_cons.mpr ⟨tw9 (List.mem_of_getElem? (i := 10) rfl) rfl, List.forall_mem_cons.mpr ⟨tw9 (List.mem_of_getElem? (i := 12) rfl) rfl, List.forall_mem_cons.mpr ⟨tw9 (List.mem_of_getElem? (i := 14) rfl) rfl, List.forall_mem_cons.mpr ⟨tw9 (List.mem_of_getElem? (i := 16) rfl) rfl, List.forall_mem_cons.mpr ⟨tw9 (List.mem_of_getElem? (i := 18) rfl) rfl, List.forall_mem_cons.mpr ⟨tw9 (List.mem_of_getElem? (i := 20) rfl) rfl, List.forall_mem_cons.mpr ⟨tw9 (List.mem_of_getElem? (i := 22) rfl) rfl, List.forall_mem_cons.mpr ⟨tw9 (List.mem_of_getElem? (i := 24) rfl) rfl, List.forall_mem_cons.mpr ⟨tw9 (List.mem_of_getElem? (i := 26) rfl) rfl, List.forall_mem_cons.mpr ⟨tw9 (List.mem_of_getElem? (i := 28) rfl) rfl, List.forall_mem_cons.mpr ⟨tw9 (List.mem_of_getElem? (i := 30) rfl) rfl, List.forall_mem_cons.mpr ⟨tw9 (List.mem_of_getElem? (i := 32) rfl) rfl, List.forall_mem_cons.mpr ⟨tw9 (List.mem_of_getElem? (i := 34) rfl) rfl, List.forall_mem_cons.mpr ⟨tw9 (List.mem_of_getElem? (i := 36) rfl) rfl, List.forall_mem_cons.mpr ⟨tw9 (List.mem_of_getElem? (i := 38) rfl) rfl, List.forall_mem_cons.mpr ⟨tw9 (List.mem_of_getElem? (i := 40) rfl) rfl, List.forall_mem_cons.mpr ⟨tw9 (List.mem_of_getElem? (i := 42) rfl) rfl, List.forall_mem_cons.mpr ⟨tw9 (List.mem_of_getElem? (i := 44) rfl) rfl, List.forall_mem_cons.mpr ⟨tw9 (List.mem_of_getElem? (i := 46) rfl) rfl, List.forall_mem_cons.mpr ⟨tw9 (List.mem_of_getElem? (i := 48) rfl) rfl, List.forall_mem_cons.mpr ⟨tw9 (List.mem_of_getElem? (i := 50) rfl) rfl, List.forall_mem_cons.mpr ⟨tw9 (List.mem_of_getElem? (i := 52) rfl) rfl, List.forall_mem_cons.mpr ⟨tw9 (List.mem_of_getElem? (i := 54) rfl) rfl, List.forall_mem_cons.mpr ⟨tw9 (List.mem_of_getElem? (i := 56) rfl) rfl, List.forall_mem_cons.mpr ⟨tw9 (List.mem_of_getElem? (i := 58) rfl) rfl, List.forall_mem_cons.mpr ⟨tw9 (List.mem_of_getElem? (i := 60) rfl) rfl, List.forall_mem_cons.mpr ⟨tw9 (List.mem_of_getElem? (i := 62) rfl) rfl, List.forall_mem_cons.mpr ⟨tw9 (List.mem_of_getElem? (i := 64) rfl) rfl, List.forall_mem_cons.mpr ⟨tw9 (List.mem_of_getElem? (i := 66) rfl) rfl, List.forall_mem_cons.mpr ⟨tw9 (List.mem_of_getElem? (i := 68) rfl) rfl, List.forall_mem_cons.mpr ⟨tw9 (List.mem_of_getElem? (i := 70) rfl) rfl, List.forall_mem_cons.mpr ⟨tw9 (List.mem_of_getElem? (i := 72) rfl) rfl, List.forall_mem_cons.mpr ⟨tw9 (List.mem_of_getElem? (i := 74) rfl) rfl, (fun _ h => absurd h List.not_mem_nil)⟩⟩⟩⟩⟩⟩⟩⟩⟩⟩⟩⟩⟩⟩⟩⟩⟩⟩⟩⟩⟩⟩⟩⟩⟩⟩⟩⟩⟩⟩⟩⟩⟩⟩⟩⟩⟩⟩⟩⟩⟩⟩⟩⟩⟩⟩⟩
theorem fp14 : ∀ k, k < 47 → parseFieldDescriptor (FT14 k).2.2.1 = some (fy14 k) := by decide +kernel
theorem fn14 : ∀ a, a < 47 → ∀ b, b < 47 → a ≠ b → (FT14 a).2.1 ≠ (FT14 b).2.1 := by decide +kernel
theorem fv14 : ∀ j, j < 47 → defaultValue (fy14 j) = vp_V fd14 j := by decide +kernel
def FT15 : u_T := fun k => match k with
  | 0 => ("PackHouseModel$Sums", "row", "[I", true)
  | _ => ("PackHouseModel$Sums", "base", "I", false)
def fy15 : Nat → FieldType := fun k => match k with
  | 0 => .array .int
  | _ => .int
theorem fe15 : u_ws "PackHouseModel$Sums" FT15 2 = [Jvm.Cond.laysFinal "PackHouseModel$Sums" "PackHouseModel$Sums" "row" "[I", Jvm.Cond.lays "PackHouseModel$Sums" "PackHouseModel$Sums" "base" "I"] := by decide +kernel
theorem fi15 : ∀ w ∈ u_ws "PackHouseModel$Sums" FT15 2, w ∈ rtbl := by
  rw [fe15]
  exact List.forall_mem_cons.mpr ⟨tw8 (List.mem_of_getElem? (i := 40) rfl) rfl, List.forall_mem_cons.mpr ⟨tw8 (List.mem_of_getElem? (i := 42) rfl) rfl, (fun _ h => absurd h List.not_mem_nil)⟩⟩
theorem fp15 : ∀ k, k < 2 → parseFieldDescriptor (FT15 k).2.2.1 = some (fy15 k) := by decide +kernel
theorem fn15 : ∀ a, a < 2 → ∀ b, b < 2 → a ≠ b → (FT15 a).2.1 ≠ (FT15 b).2.1 := by decide +kernel
theorem fv15 : ∀ j, j < 2 → defaultValue (fy15 j) = vp_V fd15 j := by decide +kernel
def FT16 : u_T := fun k => match k with
  | 0 => ("PackHouseModel$Tags", "desk", "LPackHouseModel$Desk;", true)
  | 1 => ("PackHouseModel$Tags", "made", "[I", true)
  | 2 => ("PackHouseModel$Tags", "madeLong", "I", false)
  | 3 => ("PackHouseModel$Tags", "near", "[I", true)
  | 4 => ("PackHouseModel$Tags", "far", "[I", true)
  | 5 => ("PackHouseModel$Tags", "known", "I", false)
  | 6 => ("PackHouseModel$Tags", "foundAt", "I", false)
  | 7 => ("PackHouseModel$Tags", "foundLong", "I", false)
  | 8 => ("PackHouseModel$Tags", "at", "I", false)
  | 9 => ("PackHouseModel$Tags", "end", "I", false)
  | 10 => ("PackHouseModel$Tags", "fault", "I", false)
  | _ => ("PackHouseModel$Tags", "faultAt", "I", false)
def fy16 : Nat → FieldType := fun k => match k with
  | 0 => .object "PackHouseModel$Desk"
  | 1 => .array .int
  | 2 => .int
  | 3 => .array .int
  | 4 => .array .int
  | 5 => .int
  | 6 => .int
  | 7 => .int
  | 8 => .int
  | 9 => .int
  | 10 => .int
  | _ => .int
theorem fe16 : u_ws "PackHouseModel$Tags" FT16 12 = [Jvm.Cond.laysFinal "PackHouseModel$Tags" "PackHouseModel$Tags" "desk" "LPackHouseModel$Desk;", Jvm.Cond.laysFinal "PackHouseModel$Tags" "PackHouseModel$Tags" "made" "[I", Jvm.Cond.lays "PackHouseModel$Tags" "PackHouseModel$Tags" "madeLong" "I", Jvm.Cond.laysFinal "PackHouseModel$Tags" "PackHouseModel$Tags" "near" "[I", Jvm.Cond.laysFinal "PackHouseModel$Tags" "PackHouseModel$Tags" "far" "[I", Jvm.Cond.lays "PackHouseModel$Tags" "PackHouseModel$Tags" "known" "I", Jvm.Cond.lays "PackHouseModel$Tags" "PackHouseModel$Tags" "foundAt" "I", Jvm.Cond.lays "PackHouseModel$Tags" "PackHouseModel$Tags" "foundLong" "I", Jvm.Cond.lays "PackHouseModel$Tags" "PackHouseModel$Tags" "at" "I", Jvm.Cond.lays "PackHouseModel$Tags" "PackHouseModel$Tags" "end" "I", Jvm.Cond.lays "PackHouseModel$Tags" "PackHouseModel$Tags" "fault" "I", Jvm.Cond.lays "PackHouseModel$Tags" "PackHouseModel$Tags" "faultAt" "I"] := by decide +kernel
theorem fi16 : ∀ w ∈ u_ws "PackHouseModel$Tags" FT16 12, w ∈ rtbl := by
  rw [fe16]
  exact List.forall_mem_cons.mpr ⟨tw8 (List.mem_of_getElem? (i := 126) rfl) rfl, List.forall_mem_cons.mpr ⟨tw8 (List.mem_of_getElem? (i := 128) rfl) rfl, List.forall_mem_cons.mpr ⟨tw8 (List.mem_of_getElem? (i := 130) rfl) rfl, List.forall_mem_cons.mpr ⟨tw8 (List.mem_of_getElem? (i := 132) rfl) rfl, List.forall_mem_cons.mpr ⟨tw8 (List.mem_of_getElem? (i := 134) rfl) rfl, List.forall_mem_cons.mpr ⟨tw8 (List.mem_of_getElem? (i := 136) rfl) rfl, List.forall_mem_cons.mpr ⟨tw8 (List.mem_of_getElem? (i := 138) rfl) rfl, List.forall_mem_cons.mpr ⟨tw8 (List.mem_of_getElem? (i := 140) rfl) rfl, List.forall_mem_cons.mpr ⟨tw8 (List.mem_of_getElem? (i := 142) rfl) rfl, List.forall_mem_cons.mpr ⟨tw8 (List.mem_of_getElem? (i := 144) rfl) rfl, List.forall_mem_cons.mpr ⟨tw8 (List.mem_of_getElem? (i := 146) rfl) rfl, List.forall_mem_cons.mpr ⟨tw8 (List.mem_of_getElem? (i := 148) rfl) rfl, (fun _ h => absurd h List.not_mem_nil)⟩⟩⟩⟩⟩⟩⟩⟩⟩⟩⟩⟩
theorem fp16 : ∀ k, k < 12 → parseFieldDescriptor (FT16 k).2.2.1 = some (fy16 k) := by decide +kernel
theorem fn16 : ∀ a, a < 12 → ∀ b, b < 12 → a ≠ b → (FT16 a).2.1 ≠ (FT16 b).2.1 := by decide +kernel
theorem fv16 : ∀ j, j < 12 → defaultValue (fy16 j) = vp_V fd16 j := by decide +kernel
def FT17 : u_T := fun k => match k with
  | 0 => ("PackHouseModel$Tokens", "desk", "LPackHouseModel$Desk;", true)
  | 1 => ("PackHouseModel$Tokens", "history", "[I", true)
  | 2 => ("PackHouseModel$Tokens", "historySize", "I", false)
  | 3 => ("PackHouseModel$Tokens", "lane", "[J", true)
  | 4 => ("PackHouseModel$Tokens", "data", "[I", true)
  | 5 => ("PackHouseModel$Tokens", "dataSize", "I", false)
  | 6 => ("PackHouseModel$Tokens", "found", "I", false)
  | 7 => ("PackHouseModel$Tokens", "made", "[I", true)
  | 8 => ("PackHouseModel$Tokens", "madeSize", "I", false)
  | 9 => ("PackHouseModel$Tokens", "part", "[I", true)
  | 10 => ("PackHouseModel$Tokens", "partSize", "I", false)
  | 11 => ("PackHouseModel$Tokens", "back", "[I", true)
  | 12 => ("PackHouseModel$Tokens", "backSize", "I", false)
  | 13 => ("PackHouseModel$Tokens", "content", "[I", true)
  | 14 => ("PackHouseModel$Tokens", "contentSize", "I", false)
  | 15 => ("PackHouseModel$Tokens", "at", "I", false)
  | _ => ("PackHouseModel$Tokens", "number", "I", false)
def fy17 : Nat → FieldType := fun k => match k with
  | 0 => .object "PackHouseModel$Desk"
  | 1 => .array .int
  | 2 => .int
  | 3 => .array .long
  | 4 => .array .int
  | 5 => .int
  | 6 => .int
  | 7 => .array .int
  | 8 => .int
  | 9 => .array .int
  | 10 => .int
  | 11 => .array .int
  | 12 => .int
  | 13 => .array .int
  | 14 => .int
  | 15 => .int
  | _ => .int
theorem fe17 : u_ws "PackHouseModel$Tokens" FT17 17 = [Jvm.Cond.laysFinal "PackHouseModel$Tokens" "PackHouseModel$Tokens" "desk" "LPackHouseModel$Desk;", Jvm.Cond.laysFinal "PackHouseModel$Tokens" "PackHouseModel$Tokens" "history" "[I", Jvm.Cond.lays "PackHouseModel$Tokens" "PackHouseModel$Tokens" "historySize" "I", Jvm.Cond.laysFinal "PackHouseModel$Tokens" "PackHouseModel$Tokens" "lane" "[J", Jvm.Cond.laysFinal "PackHouseModel$Tokens" "PackHouseModel$Tokens" "data" "[I", Jvm.Cond.lays "PackHouseModel$Tokens" "PackHouseModel$Tokens" "dataSize" "I", Jvm.Cond.lays "PackHouseModel$Tokens" "PackHouseModel$Tokens" "found" "I", Jvm.Cond.laysFinal "PackHouseModel$Tokens" "PackHouseModel$Tokens" "made" "[I", Jvm.Cond.lays "PackHouseModel$Tokens" "PackHouseModel$Tokens" "madeSize" "I", Jvm.Cond.laysFinal "PackHouseModel$Tokens" "PackHouseModel$Tokens" "part" "[I", Jvm.Cond.lays "PackHouseModel$Tokens" "PackHouseModel$Tokens" "partSize" "I", Jvm.Cond.laysFinal "PackHouseModel$Tokens" "PackHouseModel$Tokens" "back" "[I", Jvm.Cond.lays "PackHouseModel$Tokens" "PackHouseModel$Tokens" "backSize" "I", Jvm.Cond.laysFinal "PackHouseModel$Tokens" "PackHouseModel$Tokens" "content" "[I", Jvm.Cond.lays "PackHouseModel$Tokens" "PackHouseModel$Tokens" "contentSize" "I", Jvm.Cond.lays "PackHouseModel$Tokens" "PackHouseModel$Tokens" "at" "I", Jvm.Cond.lays "PackHouseModel$Tokens" "PackHouseModel$Tokens" "number" "I"] := by decide +kernel
theorem fi17 : ∀ w ∈ u_ws "PackHouseModel$Tokens" FT17 17, w ∈ rtbl := by
  rw [fe17]
  exact List.forall_mem_cons.mpr ⟨tw8 (List.mem_of_getElem? (i := 72) rfl) rfl, List.forall_mem_cons.mpr ⟨tw8 (List.mem_of_getElem? (i := 74) rfl) rfl, List.forall_mem_cons.mpr ⟨tw8 (List.mem_of_getElem? (i := 76) rfl) rfl, List.forall_mem_cons.mpr ⟨tw8 (List.mem_of_getElem? (i := 78) rfl) rfl, List.forall_mem_cons.mpr ⟨tw8 (List.mem_of_getElem? (i := 80) rfl) rfl, List.forall_mem_cons.mpr ⟨tw8 (List.mem_of_getElem? (i := 82) rfl) rfl, List.forall_mem_cons.mpr ⟨tw8 (List.mem_of_getElem? (i := 84) rfl) rfl, List.forall_mem_cons.mpr ⟨tw8 (List.mem_of_getElem? (i := 86) rfl) rfl, List.forall_mem_cons.mpr ⟨tw8 (List.mem_of_getElem? (i := 88) rfl) rfl, List.forall_mem_cons.mpr ⟨tw8 (List.mem_of_getElem? (i := 90) rfl) rfl, List.forall_mem_cons.mpr ⟨tw8 (List.mem_of_getElem? (i := 92) rfl) rfl, List.forall_mem_cons.mpr ⟨tw8 (List.mem_of_getElem? (i := 94) rfl) rfl, List.forall_mem_cons.mpr ⟨tw8 (List.mem_of_getElem? (i := 96) rfl) rfl, List.forall_mem_cons.mpr ⟨tw8 (List.mem_of_getElem? (i := 98) rfl) rfl, List.forall_mem_cons.mpr ⟨tw8 (List.mem_of_getElem? (i := 100) rfl) rfl, List.forall_mem_cons.mpr ⟨tw8 (List.mem_of_getElem? (i := 102) rfl) rfl, List.forall_mem_cons.mpr ⟨tw8 (List.mem_of_getElem? (i := 104) rfl) rfl, (fun _ h => absurd h List.not_mem_nil)⟩⟩⟩⟩⟩⟩⟩⟩⟩⟩⟩⟩⟩⟩⟩⟩⟩
theorem fp17 : ∀ k, k < 17 → parseFieldDescriptor (FT17 k).2.2.1 = some (fy17 k) := by decide +kernel
theorem fn17 : ∀ a, a < 17 → ∀ b, b < 17 → a ≠ b → (FT17 a).2.1 ≠ (FT17 b).2.1 := by decide +kernel
theorem fv17 : ∀ j, j < 17 → defaultValue (fy17 j) = vp_V fd17 j := by decide +kernel
def FT18 : u_T := fun k => match k with
  | 0 => ("PackHouseModel$Writer", "desk", "LPackHouseModel$Desk;", true)
  | 1 => ("PackHouseModel$Writer", "way", "I", false)
  | 2 => ("PackHouseModel$Writer", "least", "I", false)
  | 3 => ("PackHouseModel$Writer", "dictionary", "[I", true)
  | 4 => ("PackHouseModel$Writer", "dictionarySize", "I", false)
  | 5 => ("PackHouseModel$Writer", "dictionaryId", "I", false)
  | 6 => ("PackHouseModel$Writer", "formed", "Z", false)
  | 7 => ("PackHouseModel$Writer", "dictionaryLengths", "[I", true)
  | 8 => ("PackHouseModel$Writer", "dictionaryPoints", "[I", true)
  | 9 => ("PackHouseModel$Writer", "dictionaryOrders", "[I", true)
  | 10 => ("PackHouseModel$Writer", "dictionaryLatest", "[I", true)
  | 11 => ("PackHouseModel$Writer", "lengths", "[I", true)
  | 12 => ("PackHouseModel$Writer", "top", "I", false)
  | 13 => ("PackHouseModel$Writer", "points", "[I", true)
  | 14 => ("PackHouseModel$Writer", "orders", "[I", true)
  | 15 => ("PackHouseModel$Writer", "latest", "[I", true)
  | 16 => ("PackHouseModel$Writer", "wasLengths", "[I", true)
  | 17 => ("PackHouseModel$Writer", "wasTop", "I", false)
  | 18 => ("PackHouseModel$Writer", "wasPoints", "[I", true)
  | 19 => ("PackHouseModel$Writer", "wasOrders", "[I", true)
  | 20 => ("PackHouseModel$Writer", "wasLatest", "[I", true)
  | 21 => ("PackHouseModel$Writer", "data", "[I", true)
  | 22 => ("PackHouseModel$Writer", "dataSize", "I", false)
  | 23 => ("PackHouseModel$Writer", "foundAt", "I", false)
  | 24 => ("PackHouseModel$Writer", "window", "I", false)
  | 25 => ("PackHouseModel$Writer", "literalLengths", "[I", true)
  | 26 => ("PackHouseModel$Writer", "matchLengths", "[I", true)
  | 27 => ("PackHouseModel$Writer", "distances", "[I", true)
  | 28 => ("PackHouseModel$Writer", "sequences", "I", false)
  | 29 => ("PackHouseModel$Writer", "literals", "[I", true)
  | 30 => ("PackHouseModel$Writer", "literalCount", "I", false)
  | 31 => ("PackHouseModel$Writer", "symbols", "[I", true)
  | 32 => ("PackHouseModel$Writer", "moreBits", "[I", true)
  | 33 => ("PackHouseModel$Writer", "more", "[I", true)
  | 34 => ("PackHouseModel$Writer", "made", "[I", true)
  | 35 => ("PackHouseModel$Writer", "bits", "I", false)
  | 36 => ("PackHouseModel$Writer", "frame", "[I", true)
  | 37 => ("PackHouseModel$Writer", "frameSize", "I", false)
  | 38 => ("PackHouseModel$Writer", "placeSymbol", "[I", true)
  | 39 => ("PackHouseModel$Writer", "placeBits", "[I", true)
  | 40 => ("PackHouseModel$Writer", "placeBase", "[I", true)
  | 41 => ("PackHouseModel$Writer", "number", "[I", true)
  | 42 => ("PackHouseModel$Writer", "tried", "[I", true)
  | 43 => ("PackHouseModel$Writer", "cutOff", "[I", true)
  | 44 => ("PackHouseModel$Writer", "had", "[Z", true)
  | 45 => ("PackHouseModel$Writer", "counts", "[I", true)
  | 46 => ("PackHouseModel$Writer", "halved", "[I", true)
  | 47 => ("PackHouseModel$Writer", "knot", "[I", true)
  | 48 => ("PackHouseModel$Writer", "inSum", "[I", true)
  | 49 => ("PackHouseModel$Writer", "knots", "I", false)
  | 50 => ("PackHouseModel$Writer", "draft", "[I", true)
  | 51 => ("PackHouseModel$Writer", "cells", "[I", true)
  | 52 => ("PackHouseModel$Writer", "weights", "[I", true)
  | 53 => ("PackHouseModel$Writer", "weightCount", "I", false)
  | 54 => ("PackHouseModel$Writer", "weightOrder", "I", false)
  | 55 => ("PackHouseModel$Writer", "told", "[I", true)
  | 56 => ("PackHouseModel$Writer", "lane", "[J", true)
  | 57 => ("PackHouseModel$Writer", "newTold", "[I", true)
  | _ => ("PackHouseModel$Writer", "shown", "[I", true)
def fy18 : Nat → FieldType := fun k => match k with
  | 0 => .object "PackHouseModel$Desk"
  | 1 => .int
  | 2 => .int
  | 3 => .array .int
  | 4 => .int
  | 5 => .int
  | 6 => .boolean
  | 7 => .array .int
  | 8 => .array .int
  | 9 => .array .int
  | 10 => .array .int
  | 11 => .array .int
  | 12 => .int
  | 13 => .array .int
  | 14 => .array .int
  | 15 => .array .int
  | 16 => .array .int
  | 17 => .int
  | 18 => .array .int
  | 19 => .array .int
  | 20 => .array .int
  | 21 => .array .int
  | 22 => .int
  | 23 => .int
  | 24 => .int
  | 25 => .array .int
  | 26 => .array .int
  | 27 => .array .int
  | 28 => .int
  | 29 => .array .int
  | 30 => .int
  | 31 => .array .int
  | 32 => .array .int
  | 33 => .array .int
  | 34 => .array .int
  | 35 => .int
  | 36 => .array .int
  | 37 => .int
  | 38 => .array .int
  | 39 => .array .int
  | 40 => .array .int
  | 41 => .array .int
  | 42 => .array .int
  | 43 => .array .int
  | 44 => .array .boolean
  | 45 => .array .int
  | 46 => .array .int
  | 47 => .array .int
  | 48 => .array .int
  | 49 => .int
  | 50 => .array .int
  | 51 => .array .int
  | 52 => .array .int
  | 53 => .int
  | 54 => .int
  | 55 => .array .int
  | 56 => .array .long
  | 57 => .array .int
  | _ => .array .int
theorem fe18 : u_ws "PackHouseModel$Writer" FT18 59 = [Jvm.Cond.laysFinal "PackHouseModel$Writer" "PackHouseModel$Writer" "desk" "LPackHouseModel$Desk;", Jvm.Cond.lays "PackHouseModel$Writer" "PackHouseModel$Writer" "way" "I", Jvm.Cond.lays "PackHouseModel$Writer" "PackHouseModel$Writer" "least" "I", Jvm.Cond.laysFinal "PackHouseModel$Writer" "PackHouseModel$Writer" "dictionary" "[I", Jvm.Cond.lays "PackHouseModel$Writer" "PackHouseModel$Writer" "dictionarySize" "I", Jvm.Cond.lays "PackHouseModel$Writer" "PackHouseModel$Writer" "dictionaryId" "I", Jvm.Cond.lays "PackHouseModel$Writer" "PackHouseModel$Writer" "formed" "Z", Jvm.Cond.laysFinal "PackHouseModel$Writer" "PackHouseModel$Writer" "dictionaryLengths" "[I", Jvm.Cond.laysFinal "PackHouseModel$Writer" "PackHouseModel$Writer" "dictionaryPoints" "[I", Jvm.Cond.laysFinal "PackHouseModel$Writer" "PackHouseModel$Writer" "dictionaryOrders" "[I", Jvm.Cond.laysFinal "PackHouseModel$Writer" "PackHouseModel$Writer" "dictionaryLatest" "[I", Jvm.Cond.laysFinal "PackHouseModel$Writer" "PackHouseModel$Writer" "lengths" "[I", Jvm.Cond.lays "PackHouseModel$Writer" "PackHouseModel$Writer" "top" "I", Jvm.Cond.laysFinal "PackHouseModel$Writer" "PackHouseModel$Writer" "points" "[I", Jvm.Cond.laysFinal "PackHouseModel$Writer" "PackHouseModel$Writer" "orders" "[I", Jvm.Cond.laysFinal "PackHouseModel$Writer" "PackHouseModel$Writer" "latest" "[I", Jvm.Cond.laysFinal "PackHouseModel$Writer" "PackHouseModel$Writer" "wasLengths" "[I", Jvm.Cond.lays "PackHouseModel$Writer" "PackHouseModel$Writer" "wasTop" "I", Jvm.Cond.laysFinal "PackHouseModel$Writer" "PackHouseModel$Writer" "wasPoints" "[I", Jvm.Cond.laysFinal "PackHouseModel$Writer" "PackHouseModel$Writer" "wasOrders" "[I", Jvm.Cond.laysFinal "PackHouseModel$Writer" "PackHouseModel$Writer" "wasLatest" "[I", Jvm.Cond.laysFinal "PackHouseModel$Writer" "PackHouseModel$Writer" "data" "[I", Jvm.Cond.lays "PackHouseModel$Writer" "PackHouseModel$Writer" "dataSize" "I", Jvm.Cond.lays "PackHouseModel$Writer" "PackHouseModel$Writer" "foundAt" "I", Jvm.Cond.lays "PackHouseModel$Writer" "PackHouseModel$Writer" "window" "I", Jvm.Cond.laysFinal "PackHouseModel$Writer" "PackHouseModel$Writer" "literalLengths" "[I", Jvm.Cond.laysFinal "PackHouseModel$Writer" "PackHouseModel$Writer" "matchLengths" "[I", Jvm.Cond.laysFinal "PackHouseModel$Writer" "PackHouseModel$Writer" "distances" "[I", Jvm.Cond.lays "PackHouseModel$Writer" "PackHouseModel$Writer" "sequences" "I", Jvm.Cond.laysFinal "PackHouseModel$Writer" "PackHouseModel$Writer" "literals" "[I", Jvm.Cond.lays "PackHouseModel$Writer" "PackHouseModel$Writer" "literalCount" "I", Jvm.Cond.laysFinal "PackHouseModel$Writer" "PackHouseModel$Writer" "symbols" "[I", Jvm.Cond.laysFinal "PackHouseModel$Writer" "PackHouseModel$Writer" "moreBits" "[I", Jvm.Cond.laysFinal "PackHouseModel$Writer" "PackHouseModel$Writer" "more" "[I", Jvm.Cond.laysFinal "PackHouseModel$Writer" "PackHouseModel$Writer" "made" "[I", Jvm.Cond.lays "PackHouseModel$Writer" "PackHouseModel$Writer" "bits" "I", Jvm.Cond.laysFinal "PackHouseModel$Writer" "PackHouseModel$Writer" "frame" "[I", Jvm.Cond.lays "PackHouseModel$Writer" "PackHouseModel$Writer" "frameSize" "I", Jvm.Cond.laysFinal "PackHouseModel$Writer" "PackHouseModel$Writer" "placeSymbol" "[I", Jvm.Cond.laysFinal "PackHouseModel$Writer" "PackHouseModel$Writer" "placeBits" "[I", Jvm.Cond.laysFinal "PackHouseModel$Writer" "PackHouseModel$Writer" "placeBase" "[I", Jvm.Cond.laysFinal "PackHouseModel$Writer" "PackHouseModel$Writer" "number" "[I", Jvm.Cond.laysFinal "PackHouseModel$Writer" "PackHouseModel$Writer" "tried" "[I", Jvm.Cond.laysFinal "PackHouseModel$Writer" "PackHouseModel$Writer" "cutOff" "[I", Jvm.Cond.laysFinal "PackHouseModel$Writer" "PackHouseModel$Writer" "had" "[Z", Jvm.Cond.laysFinal "PackHouseModel$Writer" "PackHouseModel$Writer" "counts" "[I", Jvm.Cond.laysFinal "PackHouseModel$Writer" "PackHouseModel$Writer" "halved" "[I", Jvm.Cond.laysFinal "PackHouseModel$Writer" "PackHouseModel$Writer" "knot" "[I", Jvm.Cond.laysFinal "PackHouseModel$Writer" "PackHouseModel$Writer" "inSum" "[I", Jvm.Cond.lays "PackHouseModel$Writer" "PackHouseModel$Writer" "knots" "I", Jvm.Cond.laysFinal "PackHouseModel$Writer" "PackHouseModel$Writer" "draft" "[I", Jvm.Cond.laysFinal "PackHouseModel$Writer" "PackHouseModel$Writer" "cells" "[I", Jvm.Cond.laysFinal "PackHouseModel$Writer" "PackHouseModel$Writer" "weights" "[I", Jvm.Cond.lays "PackHouseModel$Writer" "PackHouseModel$Writer" "weightCount" "I", Jvm.Cond.lays "PackHouseModel$Writer" "PackHouseModel$Writer" "weightOrder" "I", Jvm.Cond.laysFinal "PackHouseModel$Writer" "PackHouseModel$Writer" "told" "[I", Jvm.Cond.laysFinal "PackHouseModel$Writer" "PackHouseModel$Writer" "lane" "[J", Jvm.Cond.laysFinal "PackHouseModel$Writer" "PackHouseModel$Writer" "newTold" "[I", Jvm.Cond.laysFinal "PackHouseModel$Writer" "PackHouseModel$Writer" "shown" "[I"] := by decide +kernel
theorem fi18 : ∀ w ∈ u_ws "PackHouseModel$Writer" FT18 59, w ∈ rtbl := by
  rw [fe18]
  exact List.forall_mem_cons.mpr ⟨tw9 (List.mem_of_getElem? (i := 143) rfl) rfl, List.forall_mem_cons.mpr ⟨tw9 (List.mem_of_getElem? (i := 145) rfl) rfl, List.forall_mem_cons.mpr ⟨tw9 (List.mem_of_getElem? (i := 147) rfl) rfl, List.forall_mem_cons.mpr ⟨tw9 (List.mem_of_getElem? (i := 149) rfl) rfl, List.forall_mem_cons.mpr ⟨tw9 (List.mem_of_getElem? (i := 151) rfl) rfl, List.forall_mem_cons.mpr ⟨tw9 (List.mem_of_getElem? (i := 153) rfl) rfl, List.forall_mem_cons.mpr ⟨tw9 (List.mem_of_getElem? (i := 155) rfl) rfl, List.forall_mem_cons.mpr ⟨tw9 (List.mem_of_getElem? (i := 157) rfl) rfl, List.forall_mem_cons.mpr ⟨tw9 (List.mem_of_getElem? (i := 159) rfl) rfl, List.forall_mem_cons.mpr ⟨tw9 (List.mem_of_getElem? (i := 161) rfl) rfl, List.forall_mem_cons.mpr ⟨tw9 (List.mem_of_getElem? (i := 163) rfl) rfl, List.forall_mem_cons.mpr ⟨tw9 (List.mem_of_getElem? (i := 165) rfl) rfl, List.forall_mem_cons.mpr ⟨tw9 (List.mem_of_getElem? (i := 167) rfl) rfl, List.forall_mem_cons.mpr ⟨tw9 (List.mem_of_getElem? (i := 169) rfl) rfl, List.forall_mem_cons.mpr ⟨tw9 (List.mem_of_getElem? (i := 171) rfl) rfl, List.forall_mem_cons.mpr ⟨tw9 (List.mem_of_getElem? (i := 173) rfl) rfl, List.forall_mem_cons.mpr ⟨tw9 (List.mem_of_getElem? (i := 175) rfl) rfl, List.forall_mem_cons.mpr ⟨tw9 (List.mem_of_getElem? (i := 177) rfl) rfl, List.forall_mem_cons.mpr ⟨tw9 (List.mem_of_getElem? (i := 179) rfl) rfl, List.forall_mem_cons.mpr ⟨tw9 (List.mem_of_getElem? (i := 181) rfl) rfl, List.forall_mem_cons.mpr ⟨tw9 (List.mem_of_getElem? (i := 183) rfl) rfl, List.forall_mem_cons.mpr ⟨tw9 (List.mem_of_getElem? (i := 185) rfl) rfl, List.forall_mem_cons.mpr ⟨tw9 (List.mem_of_getElem? (i := 187) rfl) rfl, List.forall_mem_cons.mpr ⟨tw9 (List.mem_of_getElem? (i := 189) rfl) rfl, List.forall_mem_cons.mpr ⟨tw9 (List.mem_of_getElem? (i := 191) rfl) rfl, List.forall_mem_cons.mpr ⟨tw9 (List.mem_of_getElem? (i := 193) rfl) rfl, List.forall_mem_cons.mpr ⟨tw9 (List.mem_of_getElem? (i := 195) rfl) rfl, List.forall_mem_cons.mpr ⟨tw9 (List.mem_of_getElem? (i := 197) rfl) rfl, List.forall_mem_cons.mpr ⟨tw9 (List.mem_of_getElem? (i := 199) rfl) rfl, List.forall_mem_cons.mpr ⟨tw9 (List.mem_of_getElem? (i := 201) rfl) rfl, List.forall_mem_cons.mpr ⟨tw9 (List.mem_of_getElem? (i := 203) rfl) rfl, List.forall_mem_cons.mpr ⟨tw9 (List.mem_of_getElem? (i := 205) rfl) rfl, List.forall_mem_cons.mpr ⟨tw9 (List.mem_of_getElem? (i := 207) rfl) rfl, List.forall_mem_cons.mpr ⟨tw9 (List.mem_of_getElem? (i := 209) rfl) rfl, List.forall_mem_cons.mpr ⟨tw9 (List.mem_of_getElem? (i := 211) rfl) rfl, List.forall_mem_cons.mpr ⟨tw9 (List.mem_of_getElem? (i := 213) rfl) rfl, List.forall_mem_cons.mpr ⟨tw9 (List.mem_of_getElem? (i := 215) rfl) rfl, List.forall_mem_cons.mpr ⟨tw9 (List.mem_of_getElem? (i := 217) rfl) rfl, List.forall_mem_cons.mpr ⟨tw9 (List.mem_of_getElem? (i := 219) rfl) rfl, List.forall_mem_cons.mpr ⟨tw9 (List.mem_of_getElem? (i := 221) rfl) rfl, List.forall_mem_cons.mpr ⟨tw9 (List.mem_of_getElem? (i := 223) rfl) rfl, List.forall_mem_cons.mpr ⟨tw9 (List.mem_of_getElem? (i := 225) rfl) rfl, List.forall_mem_cons.mpr ⟨tw9 (List.mem_of_getElem? (i := 227) rfl) rfl, List.forall_mem_cons.mpr ⟨tw9 (List.mem_of_getElem? (i := 229) rfl) rfl, List.forall_mem_cons.mpr ⟨tw9 (List.mem_of_getElem? (i := 231) rfl) rfl, List.forall_mem_cons.mpr ⟨tw9 (List.mem_of_getElem? (i := 233) rfl) rfl, List.forall_mem_cons.mpr ⟨tw9 (List.mem_of_getElem? (i := 235) rfl) rfl, List.forall_mem_cons.mpr ⟨tw9 (List.mem_of_getElem? (i := 237) rfl) rfl, List.forall_mem_cons.mpr ⟨tw9 (List.mem_of_getElem? (i := 239) rfl) rfl, List.forall_mem_cons.mpr ⟨tw10 (List.mem_of_getElem? (i := 1) rfl) rfl, List.forall_mem_cons.mpr ⟨tw10 (List.mem_of_getElem? (i := 3) rfl) rfl, List.forall_mem_cons.mpr ⟨tw10 (List.mem_of_getElem? (i := 5) rfl) rfl, List.forall_mem_cons.mpr ⟨tw10 (List.mem_of_getElem? (i := 7) rfl) rfl, List.forall_mem_cons.mpr ⟨tw10 (List.mem_of_getElem? (i := 9) rfl) rfl, List.forall_mem_cons.mpr ⟨tw10 (List.mem_of_getElem? (i := 11) rfl) rfl, List.forall_mem_cons.mpr ⟨tw10 (List.mem_of_getElem? (i := 13) rfl) rfl, List.forall_mem_cons.mpr ⟨tw10 (List.mem_of_getElem? (i := 15) rfl) rfl, List.forall_mem_cons.mpr ⟨tw10 (List.mem_of_getElem? (i := 17) rfl) rfl, List.forall_mem_cons.mpr ⟨tw10 (List.mem_of_getElem? (i := 19) rfl) rfl, (fun _ h => absurd h List.not_mem_nil)⟩⟩⟩⟩⟩⟩⟩⟩⟩⟩⟩⟩⟩⟩⟩⟩⟩⟩⟩⟩⟩⟩⟩⟩⟩⟩⟩⟩⟩⟩⟩⟩⟩⟩⟩⟩⟩⟩⟩⟩⟩⟩⟩⟩⟩⟩⟩⟩⟩⟩⟩⟩⟩⟩⟩⟩⟩⟩⟩
theorem fp18 : ∀ k, k < 59 → parseFieldDescriptor (FT18 k).2.2.1 = some (fy18 k) := by decide +kernel
theorem fn18 : ∀ a, a < 59 → ∀ b, b < 59 → a ≠ b → (FT18 a).2.1 ≠ (FT18 b).2.1 := by decide +kernel
theorem fv18 : ∀ j, j < 59 → defaultValue (fy18 j) = vp_V fd18 j := by decide +kernel
def rcls : List vw_C := [("PackHouse", FT0, 19), ("PackHouseModel", FT1, 13), ("PackHouse$BitSource", FT2, 3), ("PackHouse$Codes", FT3, 17), ("PackHouse$Dictionary", FT4, 5), ("PackHouse$Finder", FT5, 19), ("PackHouse$Packer", FT6, 19), ("PackHouse$Row", FT7, 5), ("PackHouse$Share", FT8, 13), ("PackHouse$Stand", FT9, 3), ("PackHouse$Tags", FT10, 9), ("PackHouse$Tokens", FT11, 13), ("PackHouse$Unpacker", FT12, 22), ("PackHouseModel$Desk", FT13, 5), ("PackHouseModel$Reader", FT14, 47), ("PackHouseModel$Sums", FT15, 2), ("PackHouseModel$Tags", FT16, 12), ("PackHouseModel$Tokens", FT17, 17), ("PackHouseModel$Writer", FT18, 59)]