def RX0 : String := "NightfallVillage$Claims"
def TX0 : u_T := fun k => match k with
  | 0 => ("NightfallVillage$Claims", "claimers", "[I", true)
  | 1 => ("NightfallVillage$Claims", "subjects", "[I", true)
  | 2 => ("NightfallVillage$Claims", "sides", "[C", true)
  | _ => ("NightfallVillage$Claims", "count", "I", false)
def tyX0 : Nat → FieldType := fun k => match k with
  | 0 => .array .int
  | 1 => .array .int
  | 2 => .array .char
  | _ => .int
theorem nmX0 : ∀ a, a < 4 → ∀ b, b < 4 → a ≠ b → (TX0 a).2.1 ≠ (TX0 b).2.1 := by decide +kernel
theorem tyX0_ok : ∀ k, k < 4 → parseFieldDescriptor (TX0 k).2.2.1 = some (tyX0 k) := by decide +kernel
theorem q_282 : (Cond.laysFinal "NightfallVillage$Claims" "NightfallVillage$Claims" "claimers" "[I") ∈ tw := tw_in (i := 282) (by decide +kernel) (by decide +kernel)
theorem q_284 : (Cond.laysFinal "NightfallVillage$Claims" "NightfallVillage$Claims" "subjects" "[I") ∈ tw := tw_in (i := 284) (by decide +kernel) (by decide +kernel)
theorem q_286 : (Cond.laysFinal "NightfallVillage$Claims" "NightfallVillage$Claims" "sides" "[C") ∈ tw := tw_in (i := 286) (by decide +kernel) (by decide +kernel)
theorem q_288 : (Cond.lays "NightfallVillage$Claims" "NightfallVillage$Claims" "count" "I") ∈ tw := tw_in (i := 288) (by decide +kernel) (by decide +kernel)
theorem i_X0 : ∀ w ∈ u_ws RX0 TX0 4, w ∈ tw := by
  have e : u_ws RX0 TX0 4 = [Cond.laysFinal "NightfallVillage$Claims" "NightfallVillage$Claims" "claimers" "[I", Cond.laysFinal "NightfallVillage$Claims" "NightfallVillage$Claims" "subjects" "[I", Cond.laysFinal "NightfallVillage$Claims" "NightfallVillage$Claims" "sides" "[C", Cond.lays "NightfallVillage$Claims" "NightfallVillage$Claims" "count" "I"] := by decide +kernel
  rw [e]
  exact List.forall_mem_cons.mpr ⟨q_282, List.forall_mem_cons.mpr ⟨q_284, List.forall_mem_cons.mpr ⟨q_286, List.forall_mem_cons.mpr ⟨q_288, fun _ h => absurd h List.not_mem_nil⟩⟩⟩⟩
def RX1 : String := "NightfallVillage$Day"
def TX1 : u_T := fun k => match k with
  | 0 => ("NightfallVillage$Day", "ballots", "[I", true)
  | _ => ("NightfallVillage$Day", "ghostDays", "[I", true)
def tyX1 : Nat → FieldType := fun k => match k with
  | 0 => .array .int
  | _ => .array .int
theorem nmX1 : ∀ a, a < 2 → ∀ b, b < 2 → a ≠ b → (TX1 a).2.1 ≠ (TX1 b).2.1 := by decide +kernel
theorem tyX1_ok : ∀ k, k < 2 → parseFieldDescriptor (TX1 k).2.2.1 = some (tyX1 k) := by decide +kernel
theorem q_203 : (Cond.laysFinal "NightfallVillage$Day" "NightfallVillage$Day" "ballots" "[I") ∈ tw := tw_in (i := 203) (by decide +kernel) (by decide +kernel)
theorem q_205 : (Cond.laysFinal "NightfallVillage$Day" "NightfallVillage$Day" "ghostDays" "[I") ∈ tw := tw_in (i := 205) (by decide +kernel) (by decide +kernel)
theorem i_X1 : ∀ w ∈ u_ws RX1 TX1 2, w ∈ tw := by
  have e : u_ws RX1 TX1 2 = [Cond.laysFinal "NightfallVillage$Day" "NightfallVillage$Day" "ballots" "[I", Cond.laysFinal "NightfallVillage$Day" "NightfallVillage$Day" "ghostDays" "[I"] := by decide +kernel
  rw [e]
  exact List.forall_mem_cons.mpr ⟨q_203, List.forall_mem_cons.mpr ⟨q_205, fun _ h => absurd h List.not_mem_nil⟩⟩
def RX2 : String := "NightfallVillage$Deal"
def TX2 : u_T := fun k => match k with
  | 0 => ("NightfallVillage$Deal", "dealtRoles", "[I", true)
  | 1 => ("NightfallVillage$Deal", "forebears", "[I", true)
  | 2 => ("NightfallVillage$Deal", "marks", "[I", true)
  | 3 => ("NightfallVillage$Deal", "seats", "I", false)
  | 4 => ("NightfallVillage$Deal", "lover", "I", false)
  | _ => ("NightfallVillage$Deal", "otherLover", "I", false)
def tyX2 : Nat → FieldType := fun k => match k with
  | 0 => .array .int
  | 1 => .array .int
  | 2 => .array .int
  | 3 => .int
  | 4 => .int
  | _ => .int
theorem nmX2 : ∀ a, a < 6 → ∀ b, b < 6 → a ≠ b → (TX2 a).2.1 ≠ (TX2 b).2.1 := by decide +kernel
theorem tyX2_ok : ∀ k, k < 6 → parseFieldDescriptor (TX2 k).2.2.1 = some (tyX2 k) := by decide +kernel
theorem q_98 : (Cond.laysFinal "NightfallVillage$Deal" "NightfallVillage$Deal" "dealtRoles" "[I") ∈ tw := tw_in (i := 98) (by decide +kernel) (by decide +kernel)
theorem q_100 : (Cond.laysFinal "NightfallVillage$Deal" "NightfallVillage$Deal" "forebears" "[I") ∈ tw := tw_in (i := 100) (by decide +kernel) (by decide +kernel)
theorem q_102 : (Cond.laysFinal "NightfallVillage$Deal" "NightfallVillage$Deal" "marks" "[I") ∈ tw := tw_in (i := 102) (by decide +kernel) (by decide +kernel)
theorem q_104 : (Cond.lays "NightfallVillage$Deal" "NightfallVillage$Deal" "seats" "I") ∈ tw := tw_in (i := 104) (by decide +kernel) (by decide +kernel)
theorem q_106 : (Cond.lays "NightfallVillage$Deal" "NightfallVillage$Deal" "lover" "I") ∈ tw := tw_in (i := 106) (by decide +kernel) (by decide +kernel)
theorem q_108 : (Cond.lays "NightfallVillage$Deal" "NightfallVillage$Deal" "otherLover" "I") ∈ tw := tw_in (i := 108) (by decide +kernel) (by decide +kernel)
theorem i_X2 : ∀ w ∈ u_ws RX2 TX2 6, w ∈ tw := by
  have e : u_ws RX2 TX2 6 = [Cond.laysFinal "NightfallVillage$Deal" "NightfallVillage$Deal" "dealtRoles" "[I", Cond.laysFinal "NightfallVillage$Deal" "NightfallVillage$Deal" "forebears" "[I", Cond.laysFinal "NightfallVillage$Deal" "NightfallVillage$Deal" "marks" "[I", Cond.lays "NightfallVillage$Deal" "NightfallVillage$Deal" "seats" "I", Cond.lays "NightfallVillage$Deal" "NightfallVillage$Deal" "lover" "I", Cond.lays "NightfallVillage$Deal" "NightfallVillage$Deal" "otherLover" "I"] := by decide +kernel
  rw [e]
  exact List.forall_mem_cons.mpr ⟨q_98, List.forall_mem_cons.mpr ⟨q_100, List.forall_mem_cons.mpr ⟨q_102, List.forall_mem_cons.mpr ⟨q_104, List.forall_mem_cons.mpr ⟨q_106, List.forall_mem_cons.mpr ⟨q_108, fun _ h => absurd h List.not_mem_nil⟩⟩⟩⟩⟩⟩
def RX3 : String := "NightfallVillage$Folk"
def TX3 : u_T := fun k => match k with
  | 0 => ("NightfallVillage$Folk", "roles", "LNightfallVillage$Roles;", true)
  | 1 => ("NightfallVillage$Folk", "deal", "LNightfallVillage$Deal;", true)
  | 2 => ("NightfallVillage$Folk", "held", "[I", true)
  | 3 => ("NightfallVillage$Folk", "usedUp", "[Z", true)
  | 4 => ("NightfallVillage$Folk", "causes", "[C", true)
  | 5 => ("NightfallVillage$Folk", "marks", "[I", true)
  | 6 => ("NightfallVillage$Folk", "dying", "[I", true)
  | 7 => ("NightfallVillage$Folk", "dyingCount", "I", false)
  | _ => ("NightfallVillage$Folk", "hasInherited", "Z", false)
def tyX3 : Nat → FieldType := fun k => match k with
  | 0 => .object "NightfallVillage$Roles"
  | 1 => .object "NightfallVillage$Deal"
  | 2 => .array .int
  | 3 => .array .boolean
  | 4 => .array .char
  | 5 => .array .int
  | 6 => .array .int
  | 7 => .int
  | _ => .boolean
theorem nmX3 : ∀ a, a < 9 → ∀ b, b < 9 → a ≠ b → (TX3 a).2.1 ≠ (TX3 b).2.1 := by decide +kernel
theorem tyX3_ok : ∀ k, k < 9 → parseFieldDescriptor (TX3 k).2.2.1 = some (tyX3 k) := by decide +kernel
theorem q_134 : (Cond.laysFinal "NightfallVillage$Folk" "NightfallVillage$Folk" "roles" "LNightfallVillage$Roles;") ∈ tw := tw_in (i := 134) (by decide +kernel) (by decide +kernel)
theorem q_136 : (Cond.laysFinal "NightfallVillage$Folk" "NightfallVillage$Folk" "deal" "LNightfallVillage$Deal;") ∈ tw := tw_in (i := 136) (by decide +kernel) (by decide +kernel)
theorem q_138 : (Cond.laysFinal "NightfallVillage$Folk" "NightfallVillage$Folk" "held" "[I") ∈ tw := tw_in (i := 138) (by decide +kernel) (by decide +kernel)
theorem q_140 : (Cond.laysFinal "NightfallVillage$Folk" "NightfallVillage$Folk" "usedUp" "[Z") ∈ tw := tw_in (i := 140) (by decide +kernel) (by decide +kernel)
theorem q_142 : (Cond.laysFinal "NightfallVillage$Folk" "NightfallVillage$Folk" "causes" "[C") ∈ tw := tw_in (i := 142) (by decide +kernel) (by decide +kernel)
theorem q_144 : (Cond.laysFinal "NightfallVillage$Folk" "NightfallVillage$Folk" "marks" "[I") ∈ tw := tw_in (i := 144) (by decide +kernel) (by decide +kernel)
theorem q_146 : (Cond.laysFinal "NightfallVillage$Folk" "NightfallVillage$Folk" "dying" "[I") ∈ tw := tw_in (i := 146) (by decide +kernel) (by decide +kernel)
theorem q_148 : (Cond.lays "NightfallVillage$Folk" "NightfallVillage$Folk" "dyingCount" "I") ∈ tw := tw_in (i := 148) (by decide +kernel) (by decide +kernel)
theorem q_150 : (Cond.lays "NightfallVillage$Folk" "NightfallVillage$Folk" "hasInherited" "Z") ∈ tw := tw_in (i := 150) (by decide +kernel) (by decide +kernel)
theorem i_X3 : ∀ w ∈ u_ws RX3 TX3 9, w ∈ tw := by
  have e : u_ws RX3 TX3 9 = [Cond.laysFinal "NightfallVillage$Folk" "NightfallVillage$Folk" "roles" "LNightfallVillage$Roles;", Cond.laysFinal "NightfallVillage$Folk" "NightfallVillage$Folk" "deal" "LNightfallVillage$Deal;", Cond.laysFinal "NightfallVillage$Folk" "NightfallVillage$Folk" "held" "[I", Cond.laysFinal "NightfallVillage$Folk" "NightfallVillage$Folk" "usedUp" "[Z", Cond.laysFinal "NightfallVillage$Folk" "NightfallVillage$Folk" "causes" "[C", Cond.laysFinal "NightfallVillage$Folk" "NightfallVillage$Folk" "marks" "[I", Cond.laysFinal "NightfallVillage$Folk" "NightfallVillage$Folk" "dying" "[I", Cond.lays "NightfallVillage$Folk" "NightfallVillage$Folk" "dyingCount" "I", Cond.lays "NightfallVillage$Folk" "NightfallVillage$Folk" "hasInherited" "Z"] := by decide +kernel
  rw [e]
  exact List.forall_mem_cons.mpr ⟨q_134, List.forall_mem_cons.mpr ⟨q_136, List.forall_mem_cons.mpr ⟨q_138, List.forall_mem_cons.mpr ⟨q_140, List.forall_mem_cons.mpr ⟨q_142, List.forall_mem_cons.mpr ⟨q_144, List.forall_mem_cons.mpr ⟨q_146, List.forall_mem_cons.mpr ⟨q_148, List.forall_mem_cons.mpr ⟨q_150, fun _ h => absurd h List.not_mem_nil⟩⟩⟩⟩⟩⟩⟩⟩⟩
def RX4 : String := "NightfallVillage$Game"
def TX4 : u_T := fun k => match k with
  | 0 => ("NightfallVillage$Game", "folk", "LNightfallVillage$Folk;", true)
  | 1 => ("NightfallVillage$Game", "night", "LNightfallVillage$Night;", true)
  | 2 => ("NightfallVillage$Game", "day", "LNightfallVillage$Day;", true)
  | 3 => ("NightfallVillage$Game", "hasBegun", "Z", false)
  | 4 => ("NightfallVillage$Game", "isNight", "Z", false)
  | 5 => ("NightfallVillage$Game", "number", "I", false)
  | _ => ("NightfallVillage$Game", "outcome", "C", false)
def tyX4 : Nat → FieldType := fun k => match k with
  | 0 => .object "NightfallVillage$Folk"
  | 1 => .object "NightfallVillage$Night"
  | 2 => .object "NightfallVillage$Day"
  | 3 => .boolean
  | 4 => .boolean
  | 5 => .int
  | _ => .char
theorem nmX4 : ∀ a, a < 7 → ∀ b, b < 7 → a ≠ b → (TX4 a).2.1 ≠ (TX4 b).2.1 := by decide +kernel
theorem tyX4_ok : ∀ k, k < 7 → parseFieldDescriptor (TX4 k).2.2.1 = some (tyX4 k) := by decide +kernel
theorem q_222 : (Cond.laysFinal "NightfallVillage$Game" "NightfallVillage$Game" "folk" "LNightfallVillage$Folk;") ∈ tw := tw_in (i := 222) (by decide +kernel) (by decide +kernel)
theorem q_224 : (Cond.laysFinal "NightfallVillage$Game" "NightfallVillage$Game" "night" "LNightfallVillage$Night;") ∈ tw := tw_in (i := 224) (by decide +kernel) (by decide +kernel)
theorem q_226 : (Cond.laysFinal "NightfallVillage$Game" "NightfallVillage$Game" "day" "LNightfallVillage$Day;") ∈ tw := tw_in (i := 226) (by decide +kernel) (by decide +kernel)
theorem q_228 : (Cond.lays "NightfallVillage$Game" "NightfallVillage$Game" "hasBegun" "Z") ∈ tw := tw_in (i := 228) (by decide +kernel) (by decide +kernel)
theorem q_230 : (Cond.lays "NightfallVillage$Game" "NightfallVillage$Game" "isNight" "Z") ∈ tw := tw_in (i := 230) (by decide +kernel) (by decide +kernel)
theorem q_232 : (Cond.lays "NightfallVillage$Game" "NightfallVillage$Game" "number" "I") ∈ tw := tw_in (i := 232) (by decide +kernel) (by decide +kernel)
theorem q_234 : (Cond.lays "NightfallVillage$Game" "NightfallVillage$Game" "outcome" "C") ∈ tw := tw_in (i := 234) (by decide +kernel) (by decide +kernel)
theorem i_X4 : ∀ w ∈ u_ws RX4 TX4 7, w ∈ tw := by
  have e : u_ws RX4 TX4 7 = [Cond.laysFinal "NightfallVillage$Game" "NightfallVillage$Game" "folk" "LNightfallVillage$Folk;", Cond.laysFinal "NightfallVillage$Game" "NightfallVillage$Game" "night" "LNightfallVillage$Night;", Cond.laysFinal "NightfallVillage$Game" "NightfallVillage$Game" "day" "LNightfallVillage$Day;", Cond.lays "NightfallVillage$Game" "NightfallVillage$Game" "hasBegun" "Z", Cond.lays "NightfallVillage$Game" "NightfallVillage$Game" "isNight" "Z", Cond.lays "NightfallVillage$Game" "NightfallVillage$Game" "number" "I", Cond.lays "NightfallVillage$Game" "NightfallVillage$Game" "outcome" "C"] := by decide +kernel
  rw [e]
  exact List.forall_mem_cons.mpr ⟨q_222, List.forall_mem_cons.mpr ⟨q_224, List.forall_mem_cons.mpr ⟨q_226, List.forall_mem_cons.mpr ⟨q_228, List.forall_mem_cons.mpr ⟨q_230, List.forall_mem_cons.mpr ⟨q_232, List.forall_mem_cons.mpr ⟨q_234, fun _ h => absurd h List.not_mem_nil⟩⟩⟩⟩⟩⟩⟩
def RX5 : String := "NightfallVillage$History"
def TX5 : u_T := fun k => match k with
  | 0 => ("NightfallVillage$History", "entries", "[I", true)
  | _ => ("NightfallVillage$History", "length", "I", false)
def tyX5 : Nat → FieldType := fun k => match k with
  | 0 => .array .int
  | _ => .int
theorem nmX5 : ∀ a, a < 2 → ∀ b, b < 2 → a ≠ b → (TX5 a).2.1 ≠ (TX5 b).2.1 := by decide +kernel
theorem tyX5_ok : ∀ k, k < 2 → parseFieldDescriptor (TX5 k).2.2.1 = some (tyX5 k) := by decide +kernel
theorem q_246 : (Cond.laysFinal "NightfallVillage$History" "NightfallVillage$History" "entries" "[I") ∈ tw := tw_in (i := 246) (by decide +kernel) (by decide +kernel)
theorem q_248 : (Cond.lays "NightfallVillage$History" "NightfallVillage$History" "length" "I") ∈ tw := tw_in (i := 248) (by decide +kernel) (by decide +kernel)
theorem i_X5 : ∀ w ∈ u_ws RX5 TX5 2, w ∈ tw := by
  have e : u_ws RX5 TX5 2 = [Cond.laysFinal "NightfallVillage$History" "NightfallVillage$History" "entries" "[I", Cond.lays "NightfallVillage$History" "NightfallVillage$History" "length" "I"] := by decide +kernel
  rw [e]
  exact List.forall_mem_cons.mpr ⟨q_246, List.forall_mem_cons.mpr ⟨q_248, fun _ h => absurd h List.not_mem_nil⟩⟩
def RX6 : String := "NightfallVillage$Night"
def TX6 : u_T := fun k => match k with
  | 0 => ("NightfallVillage$Night", "targets", "[I", true)
  | 1 => ("NightfallVillage$Night", "aims", "[I", true)
  | 2 => ("NightfallVillage$Night", "acts", "[C", true)
  | 3 => ("NightfallVillage$Night", "blocks", "[I", true)
  | 4 => ("NightfallVillage$Night", "blocked", "[Z", true)
  | 5 => ("NightfallVillage$Night", "drunk", "[Z", true)
  | 6 => ("NightfallVillage$Night", "guarded", "[Z", true)
  | 7 => ("NightfallVillage$Night", "attacked", "[Z", true)
  | 8 => ("NightfallVillage$Night", "silenced", "[Z", true)
  | 9 => ("NightfallVillage$Night", "done", "[Z", true)
  | _ => ("NightfallVillage$Night", "tellings", "[C", true)
def tyX6 : Nat → FieldType := fun k => match k with
  | 0 => .array .int
  | 1 => .array .int
  | 2 => .array .char
  | 3 => .array .int
  | 4 => .array .boolean
  | 5 => .array .boolean
  | 6 => .array .boolean
  | 7 => .array .boolean
  | 8 => .array .boolean
  | 9 => .array .boolean
  | _ => .array .char
theorem nmX6 : ∀ a, a < 11 → ∀ b, b < 11 → a ≠ b → (TX6 a).2.1 ≠ (TX6 b).2.1 := by decide +kernel
theorem tyX6_ok : ∀ k, k < 11 → parseFieldDescriptor (TX6 k).2.2.1 = some (tyX6 k) := by decide +kernel
theorem q_172 : (Cond.laysFinal "NightfallVillage$Night" "NightfallVillage$Night" "targets" "[I") ∈ tw := tw_in (i := 172) (by decide +kernel) (by decide +kernel)
theorem q_174 : (Cond.laysFinal "NightfallVillage$Night" "NightfallVillage$Night" "aims" "[I") ∈ tw := tw_in (i := 174) (by decide +kernel) (by decide +kernel)
theorem q_176 : (Cond.laysFinal "NightfallVillage$Night" "NightfallVillage$Night" "acts" "[C") ∈ tw := tw_in (i := 176) (by decide +kernel) (by decide +kernel)
theorem q_178 : (Cond.laysFinal "NightfallVillage$Night" "NightfallVillage$Night" "blocks" "[I") ∈ tw := tw_in (i := 178) (by decide +kernel) (by decide +kernel)
theorem q_180 : (Cond.laysFinal "NightfallVillage$Night" "NightfallVillage$Night" "blocked" "[Z") ∈ tw := tw_in (i := 180) (by decide +kernel) (by decide +kernel)
theorem q_182 : (Cond.laysFinal "NightfallVillage$Night" "NightfallVillage$Night" "drunk" "[Z") ∈ tw := tw_in (i := 182) (by decide +kernel) (by decide +kernel)
theorem q_184 : (Cond.laysFinal "NightfallVillage$Night" "NightfallVillage$Night" "guarded" "[Z") ∈ tw := tw_in (i := 184) (by decide +kernel) (by decide +kernel)
theorem q_186 : (Cond.laysFinal "NightfallVillage$Night" "NightfallVillage$Night" "attacked" "[Z") ∈ tw := tw_in (i := 186) (by decide +kernel) (by decide +kernel)
theorem q_188 : (Cond.laysFinal "NightfallVillage$Night" "NightfallVillage$Night" "silenced" "[Z") ∈ tw := tw_in (i := 188) (by decide +kernel) (by decide +kernel)
theorem q_190 : (Cond.laysFinal "NightfallVillage$Night" "NightfallVillage$Night" "done" "[Z") ∈ tw := tw_in (i := 190) (by decide +kernel) (by decide +kernel)
theorem q_192 : (Cond.laysFinal "NightfallVillage$Night" "NightfallVillage$Night" "tellings" "[C") ∈ tw := tw_in (i := 192) (by decide +kernel) (by decide +kernel)
theorem i_X6 : ∀ w ∈ u_ws RX6 TX6 11, w ∈ tw := by
  have e : u_ws RX6 TX6 11 = [Cond.laysFinal "NightfallVillage$Night" "NightfallVillage$Night" "targets" "[I", Cond.laysFinal "NightfallVillage$Night" "NightfallVillage$Night" "aims" "[I", Cond.laysFinal "NightfallVillage$Night" "NightfallVillage$Night" "acts" "[C", Cond.laysFinal "NightfallVillage$Night" "NightfallVillage$Night" "blocks" "[I", Cond.laysFinal "NightfallVillage$Night" "NightfallVillage$Night" "blocked" "[Z", Cond.laysFinal "NightfallVillage$Night" "NightfallVillage$Night" "drunk" "[Z", Cond.laysFinal "NightfallVillage$Night" "NightfallVillage$Night" "guarded" "[Z", Cond.laysFinal "NightfallVillage$Night" "NightfallVillage$Night" "attacked" "[Z", Cond.laysFinal "NightfallVillage$Night" "NightfallVillage$Night" "silenced" "[Z", Cond.laysFinal "NightfallVillage$Night" "NightfallVillage$Night" "done" "[Z", Cond.laysFinal "NightfallVillage$Night" "NightfallVillage$Night" "tellings" "[C"] := by decide +kernel
  rw [e]
  exact List.forall_mem_cons.mpr ⟨q_172, List.forall_mem_cons.mpr ⟨q_174, List.forall_mem_cons.mpr ⟨q_176, List.forall_mem_cons.mpr ⟨q_178, List.forall_mem_cons.mpr ⟨q_180, List.forall_mem_cons.mpr ⟨q_182, List.forall_mem_cons.mpr ⟨q_184, List.forall_mem_cons.mpr ⟨q_186, List.forall_mem_cons.mpr ⟨q_188, List.forall_mem_cons.mpr ⟨q_190, List.forall_mem_cons.mpr ⟨q_192, fun _ h => absurd h List.not_mem_nil⟩⟩⟩⟩⟩⟩⟩⟩⟩⟩⟩
def RX7 : String := "NightfallVillage$Roles"
def TX7 : u_T := fun k => match k with
  | 0 => ("NightfallVillage$Roles", "sides", "[C", true)
  | 1 => ("NightfallVillage$Roles", "acts", "[C", true)
  | 2 => ("NightfallVillage$Roles", "weights", "[I", true)
  | 3 => ("NightfallVillage$Roles", "once", "[Z", true)
  | 4 => ("NightfallVillage$Roles", "fools", "[Z", true)
  | 5 => ("NightfallVillage$Roles", "hunters", "[Z", true)
  | 6 => ("NightfallVillage$Roles", "looks", "[I", true)
  | _ => ("NightfallVillage$Roles", "count", "I", false)
def tyX7 : Nat → FieldType := fun k => match k with
  | 0 => .array .char
  | 1 => .array .char
  | 2 => .array .int
  | 3 => .array .boolean
  | 4 => .array .boolean
  | 5 => .array .boolean
  | 6 => .array .int
  | _ => .int
theorem nmX7 : ∀ a, a < 8 → ∀ b, b < 8 → a ≠ b → (TX7 a).2.1 ≠ (TX7 b).2.1 := by decide +kernel
theorem tyX7_ok : ∀ k, k < 8 → parseFieldDescriptor (TX7 k).2.2.1 = some (tyX7 k) := by decide +kernel
theorem q_63 : (Cond.laysFinal "NightfallVillage$Roles" "NightfallVillage$Roles" "sides" "[C") ∈ tw := tw_in (i := 63) (by decide +kernel) (by decide +kernel)
theorem q_65 : (Cond.laysFinal "NightfallVillage$Roles" "NightfallVillage$Roles" "acts" "[C") ∈ tw := tw_in (i := 65) (by decide +kernel) (by decide +kernel)
theorem q_67 : (Cond.laysFinal "NightfallVillage$Roles" "NightfallVillage$Roles" "weights" "[I") ∈ tw := tw_in (i := 67) (by decide +kernel) (by decide +kernel)
theorem q_69 : (Cond.laysFinal "NightfallVillage$Roles" "NightfallVillage$Roles" "once" "[Z") ∈ tw := tw_in (i := 69) (by decide +kernel) (by decide +kernel)
theorem q_71 : (Cond.laysFinal "NightfallVillage$Roles" "NightfallVillage$Roles" "fools" "[Z") ∈ tw := tw_in (i := 71) (by decide +kernel) (by decide +kernel)
theorem q_73 : (Cond.laysFinal "NightfallVillage$Roles" "NightfallVillage$Roles" "hunters" "[Z") ∈ tw := tw_in (i := 73) (by decide +kernel) (by decide +kernel)
theorem q_75 : (Cond.laysFinal "NightfallVillage$Roles" "NightfallVillage$Roles" "looks" "[I") ∈ tw := tw_in (i := 75) (by decide +kernel) (by decide +kernel)
theorem q_77 : (Cond.lays "NightfallVillage$Roles" "NightfallVillage$Roles" "count" "I") ∈ tw := tw_in (i := 77) (by decide +kernel) (by decide +kernel)
theorem i_X7 : ∀ w ∈ u_ws RX7 TX7 8, w ∈ tw := by
  have e : u_ws RX7 TX7 8 = [Cond.laysFinal "NightfallVillage$Roles" "NightfallVillage$Roles" "sides" "[C", Cond.laysFinal "NightfallVillage$Roles" "NightfallVillage$Roles" "acts" "[C", Cond.laysFinal "NightfallVillage$Roles" "NightfallVillage$Roles" "weights" "[I", Cond.laysFinal "NightfallVillage$Roles" "NightfallVillage$Roles" "once" "[Z", Cond.laysFinal "NightfallVillage$Roles" "NightfallVillage$Roles" "fools" "[Z", Cond.laysFinal "NightfallVillage$Roles" "NightfallVillage$Roles" "hunters" "[Z", Cond.laysFinal "NightfallVillage$Roles" "NightfallVillage$Roles" "looks" "[I", Cond.lays "NightfallVillage$Roles" "NightfallVillage$Roles" "count" "I"] := by decide +kernel
  rw [e]
  exact List.forall_mem_cons.mpr ⟨q_63, List.forall_mem_cons.mpr ⟨q_65, List.forall_mem_cons.mpr ⟨q_67, List.forall_mem_cons.mpr ⟨q_69, List.forall_mem_cons.mpr ⟨q_71, List.forall_mem_cons.mpr ⟨q_73, List.forall_mem_cons.mpr ⟨q_75, List.forall_mem_cons.mpr ⟨q_77, fun _ h => absurd h List.not_mem_nil⟩⟩⟩⟩⟩⟩⟩⟩
def RX8 : String := "NightfallVillage$Sights"
def TX8 : u_T := fun k => match k with
  | 0 => ("NightfallVillage$Sights", "tellings", "[C", true)
  | 1 => ("NightfallVillage$Sights", "shown", "[I", true)
  | 2 => ("NightfallVillage$Sights", "livingAsTold", "[I", true)
  | _ => ("NightfallVillage$Sights", "nights", "I", false)
def tyX8 : Nat → FieldType := fun k => match k with
  | 0 => .array .char
  | 1 => .array .int
  | 2 => .array .int
  | _ => .int
theorem nmX8 : ∀ a, a < 4 → ∀ b, b < 4 → a ≠ b → (TX8 a).2.1 ≠ (TX8 b).2.1 := by decide +kernel
theorem tyX8_ok : ∀ k, k < 4 → parseFieldDescriptor (TX8 k).2.2.1 = some (tyX8 k) := by decide +kernel
theorem q_262 : (Cond.laysFinal "NightfallVillage$Sights" "NightfallVillage$Sights" "tellings" "[C") ∈ tw := tw_in (i := 262) (by decide +kernel) (by decide +kernel)
theorem q_264 : (Cond.laysFinal "NightfallVillage$Sights" "NightfallVillage$Sights" "shown" "[I") ∈ tw := tw_in (i := 264) (by decide +kernel) (by decide +kernel)
theorem q_266 : (Cond.laysFinal "NightfallVillage$Sights" "NightfallVillage$Sights" "livingAsTold" "[I") ∈ tw := tw_in (i := 266) (by decide +kernel) (by decide +kernel)
theorem q_268 : (Cond.lays "NightfallVillage$Sights" "NightfallVillage$Sights" "nights" "I") ∈ tw := tw_in (i := 268) (by decide +kernel) (by decide +kernel)
theorem i_X8 : ∀ w ∈ u_ws RX8 TX8 4, w ∈ tw := by
  have e : u_ws RX8 TX8 4 = [Cond.laysFinal "NightfallVillage$Sights" "NightfallVillage$Sights" "tellings" "[C", Cond.laysFinal "NightfallVillage$Sights" "NightfallVillage$Sights" "shown" "[I", Cond.laysFinal "NightfallVillage$Sights" "NightfallVillage$Sights" "livingAsTold" "[I", Cond.lays "NightfallVillage$Sights" "NightfallVillage$Sights" "nights" "I"] := by decide +kernel
  rw [e]
  exact List.forall_mem_cons.mpr ⟨q_262, List.forall_mem_cons.mpr ⟨q_264, List.forall_mem_cons.mpr ⟨q_266, List.forall_mem_cons.mpr ⟨q_268, fun _ h => absurd h List.not_mem_nil⟩⟩⟩⟩
def RX9 : String := "NightfallVillage$Worlds"
def TX9 : u_T := fun k => match k with
  | 0 => ("NightfallVillage$Worlds", "roles", "LNightfallVillage$Roles;", true)
  | 1 => ("NightfallVillage$Worlds", "deal", "LNightfallVillage$Deal;", true)
  | 2 => ("NightfallVillage$Worlds", "folk", "LNightfallVillage$Folk;", true)
  | 3 => ("NightfallVillage$Worlds", "sights", "LNightfallVillage$Sights;", true)
  | 4 => ("NightfallVillage$Worlds", "world", "[I", true)
  | 5 => ("NightfallVillage$Worlds", "left", "[I", true)
  | 6 => ("NightfallVillage$Worlds", "tallies", "[I", true)
  | 7 => ("NightfallVillage$Worlds", "knower", "I", false)
  | _ => ("NightfallVillage$Worlds", "total", "I", false)
def tyX9 : Nat → FieldType := fun k => match k with
  | 0 => .object "NightfallVillage$Roles"
  | 1 => .object "NightfallVillage$Deal"
  | 2 => .object "NightfallVillage$Folk"
  | 3 => .object "NightfallVillage$Sights"
  | 4 => .array .int
  | 5 => .array .int
  | 6 => .array .int
  | 7 => .int
  | _ => .int
theorem nmX9 : ∀ a, a < 9 → ∀ b, b < 9 → a ≠ b → (TX9 a).2.1 ≠ (TX9 b).2.1 := by decide +kernel
theorem tyX9_ok : ∀ k, k < 9 → parseFieldDescriptor (TX9 k).2.2.1 = some (tyX9 k) := by decide +kernel
theorem q_307 : (Cond.laysFinal "NightfallVillage$Worlds" "NightfallVillage$Worlds" "roles" "LNightfallVillage$Roles;") ∈ tw := tw_in (i := 307) (by decide +kernel) (by decide +kernel)
theorem q_309 : (Cond.laysFinal "NightfallVillage$Worlds" "NightfallVillage$Worlds" "deal" "LNightfallVillage$Deal;") ∈ tw := tw_in (i := 309) (by decide +kernel) (by decide +kernel)
theorem q_311 : (Cond.laysFinal "NightfallVillage$Worlds" "NightfallVillage$Worlds" "folk" "LNightfallVillage$Folk;") ∈ tw := tw_in (i := 311) (by decide +kernel) (by decide +kernel)
theorem q_313 : (Cond.laysFinal "NightfallVillage$Worlds" "NightfallVillage$Worlds" "sights" "LNightfallVillage$Sights;") ∈ tw := tw_in (i := 313) (by decide +kernel) (by decide +kernel)
theorem q_315 : (Cond.laysFinal "NightfallVillage$Worlds" "NightfallVillage$Worlds" "world" "[I") ∈ tw := tw_in (i := 315) (by decide +kernel) (by decide +kernel)
theorem q_317 : (Cond.laysFinal "NightfallVillage$Worlds" "NightfallVillage$Worlds" "left" "[I") ∈ tw := tw_in (i := 317) (by decide +kernel) (by decide +kernel)
theorem q_319 : (Cond.laysFinal "NightfallVillage$Worlds" "NightfallVillage$Worlds" "tallies" "[I") ∈ tw := tw_in (i := 319) (by decide +kernel) (by decide +kernel)
theorem q_321 : (Cond.lays "NightfallVillage$Worlds" "NightfallVillage$Worlds" "knower" "I") ∈ tw := tw_in (i := 321) (by decide +kernel) (by decide +kernel)
theorem q_323 : (Cond.lays "NightfallVillage$Worlds" "NightfallVillage$Worlds" "total" "I") ∈ tw := tw_in (i := 323) (by decide +kernel) (by decide +kernel)
theorem i_X9 : ∀ w ∈ u_ws RX9 TX9 9, w ∈ tw := by
  have e : u_ws RX9 TX9 9 = [Cond.laysFinal "NightfallVillage$Worlds" "NightfallVillage$Worlds" "roles" "LNightfallVillage$Roles;", Cond.laysFinal "NightfallVillage$Worlds" "NightfallVillage$Worlds" "deal" "LNightfallVillage$Deal;", Cond.laysFinal "NightfallVillage$Worlds" "NightfallVillage$Worlds" "folk" "LNightfallVillage$Folk;", Cond.laysFinal "NightfallVillage$Worlds" "NightfallVillage$Worlds" "sights" "LNightfallVillage$Sights;", Cond.laysFinal "NightfallVillage$Worlds" "NightfallVillage$Worlds" "world" "[I", Cond.laysFinal "NightfallVillage$Worlds" "NightfallVillage$Worlds" "left" "[I", Cond.laysFinal "NightfallVillage$Worlds" "NightfallVillage$Worlds" "tallies" "[I", Cond.lays "NightfallVillage$Worlds" "NightfallVillage$Worlds" "knower" "I", Cond.lays "NightfallVillage$Worlds" "NightfallVillage$Worlds" "total" "I"] := by decide +kernel
  rw [e]
  exact List.forall_mem_cons.mpr ⟨q_307, List.forall_mem_cons.mpr ⟨q_309, List.forall_mem_cons.mpr ⟨q_311, List.forall_mem_cons.mpr ⟨q_313, List.forall_mem_cons.mpr ⟨q_315, List.forall_mem_cons.mpr ⟨q_317, List.forall_mem_cons.mpr ⟨q_319, List.forall_mem_cons.mpr ⟨q_321, List.forall_mem_cons.mpr ⟨q_323, fun _ h => absurd h List.not_mem_nil⟩⟩⟩⟩⟩⟩⟩⟩⟩
def RX10 : String := "NightfallVillage"
def TX10 : u_T := fun k => match k with
  | 0 => ("NightfallVillage", "roles", "LNightfallVillage$Roles;", true)
  | 1 => ("NightfallVillage", "deal", "LNightfallVillage$Deal;", true)
  | 2 => ("NightfallVillage", "game", "LNightfallVillage$Game;", true)
  | 3 => ("NightfallVillage", "otherGame", "LNightfallVillage$Game;", true)
  | 4 => ("NightfallVillage", "history", "LNightfallVillage$History;", true)
  | 5 => ("NightfallVillage", "sights", "LNightfallVillage$Sights;", true)
  | 6 => ("NightfallVillage", "claims", "LNightfallVillage$Claims;", true)
  | _ => ("NightfallVillage", "fitting", "LNightfallVillage$Worlds;", true)
def tyX10 : Nat → FieldType := fun k => match k with
  | 0 => .object "NightfallVillage$Roles"
  | 1 => .object "NightfallVillage$Deal"
  | 2 => .object "NightfallVillage$Game"
  | 3 => .object "NightfallVillage$Game"
  | 4 => .object "NightfallVillage$History"
  | 5 => .object "NightfallVillage$Sights"
  | 6 => .object "NightfallVillage$Claims"
  | _ => .object "NightfallVillage$Worlds"
theorem nmX10 : ∀ a, a < 8 → ∀ b, b < 8 → a ≠ b → (TX10 a).2.1 ≠ (TX10 b).2.1 := by decide +kernel
theorem tyX10_ok : ∀ k, k < 8 → parseFieldDescriptor (TX10 k).2.2.1 = some (tyX10 k) := by decide +kernel
theorem q_334 : (Cond.laysFinal "NightfallVillage" "NightfallVillage" "roles" "LNightfallVillage$Roles;") ∈ tw := tw_in (i := 334) (by decide +kernel) (by decide +kernel)
theorem q_336 : (Cond.laysFinal "NightfallVillage" "NightfallVillage" "deal" "LNightfallVillage$Deal;") ∈ tw := tw_in (i := 336) (by decide +kernel) (by decide +kernel)
theorem q_338 : (Cond.laysFinal "NightfallVillage" "NightfallVillage" "game" "LNightfallVillage$Game;") ∈ tw := tw_in (i := 338) (by decide +kernel) (by decide +kernel)
theorem q_340 : (Cond.laysFinal "NightfallVillage" "NightfallVillage" "otherGame" "LNightfallVillage$Game;") ∈ tw := tw_in (i := 340) (by decide +kernel) (by decide +kernel)
theorem q_342 : (Cond.laysFinal "NightfallVillage" "NightfallVillage" "history" "LNightfallVillage$History;") ∈ tw := tw_in (i := 342) (by decide +kernel) (by decide +kernel)
theorem q_344 : (Cond.laysFinal "NightfallVillage" "NightfallVillage" "sights" "LNightfallVillage$Sights;") ∈ tw := tw_in (i := 344) (by decide +kernel) (by decide +kernel)
theorem q_346 : (Cond.laysFinal "NightfallVillage" "NightfallVillage" "claims" "LNightfallVillage$Claims;") ∈ tw := tw_in (i := 346) (by decide +kernel) (by decide +kernel)
theorem q_348 : (Cond.laysFinal "NightfallVillage" "NightfallVillage" "fitting" "LNightfallVillage$Worlds;") ∈ tw := tw_in (i := 348) (by decide +kernel) (by decide +kernel)
theorem i_X10 : ∀ w ∈ u_ws RX10 TX10 8, w ∈ tw := by
  have e : u_ws RX10 TX10 8 = [Cond.laysFinal "NightfallVillage" "NightfallVillage" "roles" "LNightfallVillage$Roles;", Cond.laysFinal "NightfallVillage" "NightfallVillage" "deal" "LNightfallVillage$Deal;", Cond.laysFinal "NightfallVillage" "NightfallVillage" "game" "LNightfallVillage$Game;", Cond.laysFinal "NightfallVillage" "NightfallVillage" "otherGame" "LNightfallVillage$Game;", Cond.laysFinal "NightfallVillage" "NightfallVillage" "history" "LNightfallVillage$History;", Cond.laysFinal "NightfallVillage" "NightfallVillage" "sights" "LNightfallVillage$Sights;", Cond.laysFinal "NightfallVillage" "NightfallVillage" "claims" "LNightfallVillage$Claims;", Cond.laysFinal "NightfallVillage" "NightfallVillage" "fitting" "LNightfallVillage$Worlds;"] := by decide +kernel
  rw [e]
  exact List.forall_mem_cons.mpr ⟨q_334, List.forall_mem_cons.mpr ⟨q_336, List.forall_mem_cons.mpr ⟨q_338, List.forall_mem_cons.mpr ⟨q_340, List.forall_mem_cons.mpr ⟨q_342, List.forall_mem_cons.mpr ⟨q_344, List.forall_mem_cons.mpr ⟨q_346, List.forall_mem_cons.mpr ⟨q_348, fun _ h => absurd h List.not_mem_nil⟩⟩⟩⟩⟩⟩⟩⟩
def RX11 : String := "NightfallVillageModel$Role"
def TX11 : u_T := fun k => match k with
  | 0 => ("NightfallVillageModel$Role", "side", "C", true)
  | 1 => ("NightfallVillageModel$Role", "act", "C", true)
  | 2 => ("NightfallVillageModel$Role", "weight", "I", true)
  | 3 => ("NightfallVillageModel$Role", "isOnce", "Z", true)
  | 4 => ("NightfallVillageModel$Role", "isFool", "Z", true)
  | 5 => ("NightfallVillageModel$Role", "isHunter", "Z", true)
  | _ => ("NightfallVillageModel$Role", "seems", "I", false)
def tyX11 : Nat → FieldType := fun k => match k with
  | 0 => .char
  | 1 => .char
  | 2 => .int
  | 3 => .boolean
  | 4 => .boolean
  | 5 => .boolean
  | _ => .int
theorem nmX11 : ∀ a, a < 7 → ∀ b, b < 7 → a ≠ b → (TX11 a).2.1 ≠ (TX11 b).2.1 := by decide +kernel
theorem tyX11_ok : ∀ k, k < 7 → parseFieldDescriptor (TX11 k).2.2.1 = some (tyX11 k) := by decide +kernel
theorem q_1509 : (Cond.laysFinal "NightfallVillageModel$Role" "NightfallVillageModel$Role" "side" "C") ∈ tw := tw_in (i := 1509) (by decide +kernel) (by decide +kernel)
theorem q_1511 : (Cond.laysFinal "NightfallVillageModel$Role" "NightfallVillageModel$Role" "act" "C") ∈ tw := tw_in (i := 1511) (by decide +kernel) (by decide +kernel)
theorem q_1513 : (Cond.laysFinal "NightfallVillageModel$Role" "NightfallVillageModel$Role" "weight" "I") ∈ tw := tw_in (i := 1513) (by decide +kernel) (by decide +kernel)
theorem q_1515 : (Cond.laysFinal "NightfallVillageModel$Role" "NightfallVillageModel$Role" "isOnce" "Z") ∈ tw := tw_in (i := 1515) (by decide +kernel) (by decide +kernel)
theorem q_1517 : (Cond.laysFinal "NightfallVillageModel$Role" "NightfallVillageModel$Role" "isFool" "Z") ∈ tw := tw_in (i := 1517) (by decide +kernel) (by decide +kernel)
theorem q_1519 : (Cond.laysFinal "NightfallVillageModel$Role" "NightfallVillageModel$Role" "isHunter" "Z") ∈ tw := tw_in (i := 1519) (by decide +kernel) (by decide +kernel)
theorem q_1521 : (Cond.lays "NightfallVillageModel$Role" "NightfallVillageModel$Role" "seems" "I") ∈ tw := tw_in (i := 1521) (by decide +kernel) (by decide +kernel)
theorem i_X11 : ∀ w ∈ u_ws RX11 TX11 7, w ∈ tw := by
  have e : u_ws RX11 TX11 7 = [Cond.laysFinal "NightfallVillageModel$Role" "NightfallVillageModel$Role" "side" "C", Cond.laysFinal "NightfallVillageModel$Role" "NightfallVillageModel$Role" "act" "C", Cond.laysFinal "NightfallVillageModel$Role" "NightfallVillageModel$Role" "weight" "I", Cond.laysFinal "NightfallVillageModel$Role" "NightfallVillageModel$Role" "isOnce" "Z", Cond.laysFinal "NightfallVillageModel$Role" "NightfallVillageModel$Role" "isFool" "Z", Cond.laysFinal "NightfallVillageModel$Role" "NightfallVillageModel$Role" "isHunter" "Z", Cond.lays "NightfallVillageModel$Role" "NightfallVillageModel$Role" "seems" "I"] := by decide +kernel
  rw [e]
  exact List.forall_mem_cons.mpr ⟨q_1509, List.forall_mem_cons.mpr ⟨q_1511, List.forall_mem_cons.mpr ⟨q_1513, List.forall_mem_cons.mpr ⟨q_1515, List.forall_mem_cons.mpr ⟨q_1517, List.forall_mem_cons.mpr ⟨q_1519, List.forall_mem_cons.mpr ⟨q_1521, fun _ h => absurd h List.not_mem_nil⟩⟩⟩⟩⟩⟩⟩
def RX12 : String := "NightfallVillageModel"
def TX12 : u_T := fun k => match k with
  | 0 => ("NightfallVillageModel", "thrown", "I", false)
  | 1 => ("NightfallVillageModel", "roles", "Ljava/util/List;", true)
  | 2 => ("NightfallVillageModel", "dealt", "Ljava/util/List;", true)
  | 3 => ("NightfallVillageModel", "heirOf", "[I", true)
  | 4 => ("NightfallVillageModel", "lover", "I", false)
  | 5 => ("NightfallVillageModel", "beloved", "I", false)
  | 6 => ("NightfallVillageModel", "hasBegun", "Z", false)
  | 7 => ("NightfallVillageModel", "own", "[I", true)
  | 8 => ("NightfallVillageModel", "marked", "[I", true)
  | 9 => ("NightfallVillageModel", "target", "[I", true)
  | 10 => ("NightfallVillageModel", "votes", "[I", true)
  | 11 => ("NightfallVillageModel", "ghostDay", "[I", true)
  | 12 => ("NightfallVillageModel", "knownRole", "[I", true)
  | 13 => ("NightfallVillageModel", "death", "[C", true)
  | 14 => ("NightfallVillageModel", "isUsed", "[Z", true)
  | 15 => ("NightfallVillageModel", "isSilenced", "[Z", true)
  | 16 => ("NightfallVillageModel", "isNight", "Z", false)
  | 17 => ("NightfallVillageModel", "hasHeirs", "Z", false)
  | 18 => ("NightfallVillageModel", "did", "[Z", false)
  | 19 => ("NightfallVillageModel", "number", "I", false)
  | 20 => ("NightfallVillageModel", "winner", "C", false)
  | 21 => ("NightfallVillageModel", "toldAt", "Ljava/util/List;", true)
  | 22 => ("NightfallVillageModel", "seenAt", "Ljava/util/List;", true)
  | 23 => ("NightfallVillageModel", "livedAt", "Ljava/util/List;", true)
  | 24 => ("NightfallVillageModel", "history", "Ljava/util/List;", true)
  | _ => ("NightfallVillageModel", "claims", "Ljava/util/List;", true)
def tyX12 : Nat → FieldType := fun k => match k with
  | 0 => .int
  | 1 => .object "java/util/List"
  | 2 => .object "java/util/List"
  | 3 => .array .int
  | 4 => .int
  | 5 => .int
  | 6 => .boolean
  | 7 => .array .int
  | 8 => .array .int
  | 9 => .array .int
  | 10 => .array .int
  | 11 => .array .int
  | 12 => .array .int
  | 13 => .array .char
  | 14 => .array .boolean
  | 15 => .array .boolean
  | 16 => .boolean
  | 17 => .boolean
  | 18 => .array .boolean
  | 19 => .int
  | 20 => .char
  | 21 => .object "java/util/List"
  | 22 => .object "java/util/List"
  | 23 => .object "java/util/List"
  | 24 => .object "java/util/List"
  | _ => .object "java/util/List"
theorem nmX12 : ∀ a, a < 26 → ∀ b, b < 26 → a ≠ b → (TX12 a).2.1 ≠ (TX12 b).2.1 := by decide +kernel
theorem tyX12_ok : ∀ k, k < 26 → parseFieldDescriptor (TX12 k).2.2.1 = some (tyX12 k) := by decide +kernel
theorem q_1330 : (Cond.lays "NightfallVillageModel" "NightfallVillageModel" "thrown" "I") ∈ tw := tw_in (i := 1330) (by decide +kernel) (by decide +kernel)
theorem q_1332 : (Cond.laysFinal "NightfallVillageModel" "NightfallVillageModel" "roles" "Ljava/util/List;") ∈ tw := tw_in (i := 1332) (by decide +kernel) (by decide +kernel)
theorem q_1334 : (Cond.laysFinal "NightfallVillageModel" "NightfallVillageModel" "dealt" "Ljava/util/List;") ∈ tw := tw_in (i := 1334) (by decide +kernel) (by decide +kernel)
theorem q_1336 : (Cond.laysFinal "NightfallVillageModel" "NightfallVillageModel" "heirOf" "[I") ∈ tw := tw_in (i := 1336) (by decide +kernel) (by decide +kernel)
theorem q_1338 : (Cond.lays "NightfallVillageModel" "NightfallVillageModel" "lover" "I") ∈ tw := tw_in (i := 1338) (by decide +kernel) (by decide +kernel)
theorem q_1340 : (Cond.lays "NightfallVillageModel" "NightfallVillageModel" "beloved" "I") ∈ tw := tw_in (i := 1340) (by decide +kernel) (by decide +kernel)
theorem q_1342 : (Cond.lays "NightfallVillageModel" "NightfallVillageModel" "hasBegun" "Z") ∈ tw := tw_in (i := 1342) (by decide +kernel) (by decide +kernel)
theorem q_1344 : (Cond.laysFinal "NightfallVillageModel" "NightfallVillageModel" "own" "[I") ∈ tw := tw_in (i := 1344) (by decide +kernel) (by decide +kernel)
theorem q_1346 : (Cond.laysFinal "NightfallVillageModel" "NightfallVillageModel" "marked" "[I") ∈ tw := tw_in (i := 1346) (by decide +kernel) (by decide +kernel)
theorem q_1348 : (Cond.laysFinal "NightfallVillageModel" "NightfallVillageModel" "target" "[I") ∈ tw := tw_in (i := 1348) (by decide +kernel) (by decide +kernel)
theorem q_1350 : (Cond.laysFinal "NightfallVillageModel" "NightfallVillageModel" "votes" "[I") ∈ tw := tw_in (i := 1350) (by decide +kernel) (by decide +kernel)
theorem q_1352 : (Cond.laysFinal "NightfallVillageModel" "NightfallVillageModel" "ghostDay" "[I") ∈ tw := tw_in (i := 1352) (by decide +kernel) (by decide +kernel)
theorem q_1354 : (Cond.laysFinal "NightfallVillageModel" "NightfallVillageModel" "knownRole" "[I") ∈ tw := tw_in (i := 1354) (by decide +kernel) (by decide +kernel)
theorem q_1356 : (Cond.laysFinal "NightfallVillageModel" "NightfallVillageModel" "death" "[C") ∈ tw := tw_in (i := 1356) (by decide +kernel) (by decide +kernel)
theorem q_1358 : (Cond.laysFinal "NightfallVillageModel" "NightfallVillageModel" "isUsed" "[Z") ∈ tw := tw_in (i := 1358) (by decide +kernel) (by decide +kernel)
theorem q_1360 : (Cond.laysFinal "NightfallVillageModel" "NightfallVillageModel" "isSilenced" "[Z") ∈ tw := tw_in (i := 1360) (by decide +kernel) (by decide +kernel)
theorem q_1362 : (Cond.lays "NightfallVillageModel" "NightfallVillageModel" "isNight" "Z") ∈ tw := tw_in (i := 1362) (by decide +kernel) (by decide +kernel)
theorem q_1364 : (Cond.lays "NightfallVillageModel" "NightfallVillageModel" "hasHeirs" "Z") ∈ tw := tw_in (i := 1364) (by decide +kernel) (by decide +kernel)
theorem q_1366 : (Cond.lays "NightfallVillageModel" "NightfallVillageModel" "did" "[Z") ∈ tw := tw_in (i := 1366) (by decide +kernel) (by decide +kernel)
theorem q_1368 : (Cond.lays "NightfallVillageModel" "NightfallVillageModel" "number" "I") ∈ tw := tw_in (i := 1368) (by decide +kernel) (by decide +kernel)
theorem q_1370 : (Cond.lays "NightfallVillageModel" "NightfallVillageModel" "winner" "C") ∈ tw := tw_in (i := 1370) (by decide +kernel) (by decide +kernel)
theorem q_1372 : (Cond.laysFinal "NightfallVillageModel" "NightfallVillageModel" "toldAt" "Ljava/util/List;") ∈ tw := tw_in (i := 1372) (by decide +kernel) (by decide +kernel)
theorem q_1374 : (Cond.laysFinal "NightfallVillageModel" "NightfallVillageModel" "seenAt" "Ljava/util/List;") ∈ tw := tw_in (i := 1374) (by decide +kernel) (by decide +kernel)
theorem q_1376 : (Cond.laysFinal "NightfallVillageModel" "NightfallVillageModel" "livedAt" "Ljava/util/List;") ∈ tw := tw_in (i := 1376) (by decide +kernel) (by decide +kernel)
theorem q_1378 : (Cond.laysFinal "NightfallVillageModel" "NightfallVillageModel" "history" "Ljava/util/List;") ∈ tw := tw_in (i := 1378) (by decide +kernel) (by decide +kernel)
theorem q_1380 : (Cond.laysFinal "NightfallVillageModel" "NightfallVillageModel" "claims" "Ljava/util/List;") ∈ tw := tw_in (i := 1380) (by decide +kernel) (by decide +kernel)
theorem i_X12 : ∀ w ∈ u_ws RX12 TX12 26, w ∈ tw := by
  have e : u_ws RX12 TX12 26 = [Cond.lays "NightfallVillageModel" "NightfallVillageModel" "thrown" "I", Cond.laysFinal "NightfallVillageModel" "NightfallVillageModel" "roles" "Ljava/util/List;", Cond.laysFinal "NightfallVillageModel" "NightfallVillageModel" "dealt" "Ljava/util/List;", Cond.laysFinal "NightfallVillageModel" "NightfallVillageModel" "heirOf" "[I", Cond.lays "NightfallVillageModel" "NightfallVillageModel" "lover" "I", Cond.lays "NightfallVillageModel" "NightfallVillageModel" "beloved" "I", Cond.lays "NightfallVillageModel" "NightfallVillageModel" "hasBegun" "Z", Cond.laysFinal "NightfallVillageModel" "NightfallVillageModel" "own" "[I", Cond.laysFinal "NightfallVillageModel" "NightfallVillageModel" "marked" "[I", Cond.laysFinal "NightfallVillageModel" "NightfallVillageModel" "target" "[I", Cond.laysFinal "NightfallVillageModel" "NightfallVillageModel" "votes" "[I", Cond.laysFinal "NightfallVillageModel" "NightfallVillageModel" "ghostDay" "[I", Cond.laysFinal "NightfallVillageModel" "NightfallVillageModel" "knownRole" "[I", Cond.laysFinal "NightfallVillageModel" "NightfallVillageModel" "death" "[C", Cond.laysFinal "NightfallVillageModel" "NightfallVillageModel" "isUsed" "[Z", Cond.laysFinal "NightfallVillageModel" "NightfallVillageModel" "isSilenced" "[Z", Cond.lays "NightfallVillageModel" "NightfallVillageModel" "isNight" "Z", Cond.lays "NightfallVillageModel" "NightfallVillageModel" "hasHeirs" "Z", Cond.lays "NightfallVillageModel" "NightfallVillageModel" "did" "[Z", Cond.lays "NightfallVillageModel" "NightfallVillageModel" "number" "I", Cond.lays "NightfallVillageModel" "NightfallVillageModel" "winner" "C", Cond.laysFinal "NightfallVillageModel" "NightfallVillageModel" "toldAt" "Ljava/util/List;", Cond.laysFinal "NightfallVillageModel" "NightfallVillageModel" "seenAt" "Ljava/util/List;", Cond.laysFinal "NightfallVillageModel" "NightfallVillageModel" "livedAt" "Ljava/util/List;", Cond.laysFinal "NightfallVillageModel" "NightfallVillageModel" "history" "Ljava/util/List;", Cond.laysFinal "NightfallVillageModel" "NightfallVillageModel" "claims" "Ljava/util/List;"] := by decide +kernel
  rw [e]
  exact List.forall_mem_cons.mpr ⟨q_1330, List.forall_mem_cons.mpr ⟨q_1332, List.forall_mem_cons.mpr ⟨q_1334, List.forall_mem_cons.mpr ⟨q_1336, List.forall_mem_cons.mpr ⟨q_1338, List.forall_mem_cons.mpr ⟨q_1340, List.forall_mem_cons.mpr ⟨q_1342, List.forall_mem_cons.mpr ⟨q_1344, List.forall_mem_cons.mpr ⟨q_1346, List.forall_mem_cons.mpr ⟨q_1348, List.forall_mem_cons.mpr ⟨q_1350, List.forall_mem_cons.mpr ⟨q_1352, List.forall_mem_cons.mpr ⟨q_1354, List.forall_mem_cons.mpr ⟨q_1356, List.forall_mem_cons.mpr ⟨q_1358, List.forall_mem_cons.mpr ⟨q_1360, List.forall_mem_cons.mpr ⟨q_1362, List.forall_mem_cons.mpr ⟨q_1364, List.forall_mem_cons.mpr ⟨q_1366, List.forall_mem_cons.mpr ⟨q_1368, List.forall_mem_cons.mpr ⟨q_1370, List.forall_mem_cons.mpr ⟨q_1372, List.forall_mem_cons.mpr ⟨q_1374, List.forall_mem_cons.mpr ⟨q_1376, List.forall_mem_cons.mpr ⟨q_1378, List.forall_mem_cons.mpr ⟨q_1380, fun _ h => absurd h List.not_mem_nil⟩⟩⟩⟩⟩⟩⟩⟩⟩⟩⟩⟩⟩⟩⟩⟩⟩⟩⟩⟩⟩⟩⟩⟩⟩⟩
def RJ6 : String := "java/lang/Integer"
def TJ6 : u_T := fun k => match k with
  | _ => ("java/lang/Integer", "value", "I", true)
def tyJ6 : Nat → FieldType := fun k => match k with
  | _ => .int
theorem nmJ6 : ∀ a, a < 1 → ∀ b, b < 1 → a ≠ b → (TJ6 a).2.1 ≠ (TJ6 b).2.1 := by decide +kernel
theorem tyJ6_ok : ∀ k, k < 1 → parseFieldDescriptor (TJ6 k).2.2.1 = some (tyJ6 k) := by decide +kernel
theorem q_1640 : (Cond.laysFinal "java/lang/Integer" "java/lang/Integer" "value" "I") ∈ tw := tw_in (i := 1640) (by decide +kernel) (by decide +kernel)
theorem i_J6 : ∀ w ∈ u_ws RJ6 TJ6 1, w ∈ tw := by
  have e : u_ws RJ6 TJ6 1 = [Cond.laysFinal "java/lang/Integer" "java/lang/Integer" "value" "I"] := by decide +kernel
  rw [e]
  exact List.forall_mem_cons.mpr ⟨q_1640, fun _ h => absurd h List.not_mem_nil⟩
def RJx4a65c : String := "java/util/ArrayList"
def TJx4a65c : u_T := fun k => match k with
  | 0 => ("java/util/AbstractList", "modCount", "I", false)
  | 1 => ("java/util/ArrayList", "elementData", "[Ljava/lang/Object;", false)
  | _ => ("java/util/ArrayList", "size", "I", false)
def tyJx4a65c : Nat → FieldType := fun k => match k with
  | 0 => .int
  | 1 => .array (.object "java/lang/Object")
  | _ => .int
theorem nmJx4a65c : ∀ a, a < 3 → ∀ b, b < 3 → a ≠ b → (TJx4a65c a).2.1 ≠ (TJx4a65c b).2.1 := by decide +kernel
theorem tyJx4a65c_ok : ∀ k, k < 3 → parseFieldDescriptor (TJx4a65c k).2.2.1 = some (tyJx4a65c k) := by decide +kernel
theorem q_1297 : (Cond.lays "java/util/ArrayList" "java/util/AbstractList" "modCount" "I") ∈ tw := tw_in (i := 1297) (by decide +kernel) (by decide +kernel)
theorem q_1293 : (Cond.lays "java/util/ArrayList" "java/util/ArrayList" "elementData" "[Ljava/lang/Object;") ∈ tw := tw_in (i := 1293) (by decide +kernel) (by decide +kernel)
theorem q_1295 : (Cond.lays "java/util/ArrayList" "java/util/ArrayList" "size" "I") ∈ tw := tw_in (i := 1295) (by decide +kernel) (by decide +kernel)
theorem i_Jx4a65c : ∀ w ∈ u_ws RJx4a65c TJx4a65c 3, w ∈ tw := by
  have e : u_ws RJx4a65c TJx4a65c 3 = [Cond.lays "java/util/ArrayList" "java/util/AbstractList" "modCount" "I", Cond.lays "java/util/ArrayList" "java/util/ArrayList" "elementData" "[Ljava/lang/Object;", Cond.lays "java/util/ArrayList" "java/util/ArrayList" "size" "I"] := by decide +kernel
  rw [e]
  exact List.forall_mem_cons.mpr ⟨q_1297, List.forall_mem_cons.mpr ⟨q_1293, List.forall_mem_cons.mpr ⟨q_1295, fun _ h => absurd h List.not_mem_nil⟩⟩⟩
abbrev cls : List vw_C := [(RX0, TX0, 4), (RX1, TX1, 2), (RX2, TX2, 6), (RX3, TX3, 9), (RX4, TX4, 7), (RX5, TX5, 2), (RX6, TX6, 11), (RX7, TX7, 8), (RX8, TX8, 4), (RX9, TX9, 9), (RX10, TX10, 8), (RX11, TX11, 7), (RX12, TX12, 26), (RJ6, TJ6, 1), (RJx4a65c, TJx4a65c, 3)]
/-! ===== what lies in the old heap and in the tables, wherever the walk stands ===== -/
def nJ : Nat := 2
def lenJ : List Nat := [3, 8]
def bytJ : List (List Int32) := [[118, 119, 108], [45, 98, 114, 100, 112, 115, 113, 107]]
/-- the statics that a throw reads -/
def am_z (A : Nat → Prop) (U : State) (H : Heap) : Prop := vx_Zq Bundle.tN "UNASSIGNED_STACK" Bundle.steD A U H ∧ vx_Zq Bundle.tN "SUPPRESSED_SENTINEL" Bundle.listD A U H
/-- every String constant stands resolved -/
def am_r (U : State) : Prop := ∀ (own : String) (k : Nat) (tx : String), Cond.stringRef own k tx ∈ tables_1 → ∃ sa, vk_R own k tx sa U
/-- ArrayList's shared empty row -/
def am_l (tE : Nat) (A : Nat → Prop) (U : State) (H : Heap) : Prop := va_Z "java/util/ArrayList" "DEFAULTCAPACITY_EMPTY_ELEMENTDATA" "[Ljava/lang/Object;" (.ref tE) A U H ∧ va_T (.object "java/lang/Object") tE 0 (fun _ => .null) A U H
/-- the two texts that are searched -/
def am_s (adK adV : Nat → Nat) (A : Nat → Prop) (U : State) (H : Heap) : Prop := va_Z "java/lang/String" "COMPACT_STRINGS" "Z" (.int 1) A U H ∧ vk_S nJ lenJ bytJ adK adV A U H
/-- .. and where the reference's class holds them -/
def am_k (adK : Nat → Nat) (U : State) : Prop := (∀ k, Cond.stringRef "NightfallVillageModel" k "vwl" ∈ tables_1 → vk_R "NightfallVillageModel" k "vwl" (adK 0) U) ∧ (∀ k, Cond.stringRef "NightfallVillageModel" k "-brdpsqk" ∈ tables_1 → vk_R "NightfallVillageModel" k "-brdpsqk" (adK 1) U)
/-- what no class is, and the class of rows of objects -/
def am_n (U : State) : Prop := va_Nc "java/lang/IllegalStateException" "java/lang/UnsupportedOperationException" U ∧ va_AO "java/lang/Object" U
def am (tE : Nat) (adK adV : Nat → Nat) (A : Nat → Prop) (U : State) (H : Heap) : Prop := am_z A U H ∧ am_r U ∧ am_l tE A U H ∧ am_s adK adV A U H ∧ am_k adK U ∧ am_n U
section AM
variable {tE : Nat} {adK adV : Nat → Nat} {A B : Nat → Prop} {s U : State} {H H1 : Heap}
theorem am.move (hW : s.WarmedH U.vm) (h : am tE adK adV A s H) : am tE adK adV A U H := by
  obtain ⟨⟨z1, z2⟩, r, ⟨l1, l2⟩, ⟨s1, s2⟩, ⟨k1, k2⟩, ⟨n1, n2⟩⟩ := h
  refine ⟨⟨vx_Zq.moved hW.alike z1, vx_Zq.moved hW.alike z2⟩, fun own k tx hw => ?_, ⟨va_Z.moved hW.alike l1, va_T.moved hW.alike l2⟩, ⟨va_Z.moved hW.alike s1, vk_S.moved hW.alike s2⟩, ⟨fun k hk => vk_R.warm hW (k1 k hk), fun k hk => vk_R.warm hW (k2 k hk)⟩, ⟨va_Nc.moved hW.alike n1, va_AO.moved hW.alike n2⟩⟩
  obtain ⟨sa, h⟩ := r own k tx hw
  exact ⟨sa, vk_R.warm hW h⟩
theorem am.kept (h : am tE adK adV A U H) (hq : ∀ a : Nat, a < H.size → ¬ A a → H1[a]? = H[a]?) : am tE adK adV A U H1 := by
  obtain ⟨⟨z1, z2⟩, r, ⟨l1, l2⟩, ⟨s1, s2⟩, k⟩ := h
  exact ⟨⟨z1.kept hq, z2.kept hq⟩, r, ⟨va_Z.kept l1 hq, l2.kept hq⟩, ⟨va_Z.kept s1 hq, s2.kept hq⟩, k⟩
theorem am.narrow (h : am tE adK adV A U H) (hAB : ∀ q, B q → A q) : am tE adK adV B U H := by
  obtain ⟨⟨z1, z2⟩, r, ⟨l1, l2⟩, ⟨s1, s2⟩, k⟩ := h
  exact ⟨⟨z1.narrow hAB, z2.narrow hAB⟩, r, ⟨va_Z.narrow l1 hAB, l2.narrow hAB⟩, ⟨va_Z.narrow s1 hAB, s2.narrow hAB⟩, k⟩
end AM
/-! ===== a method's start: its world, the tables, the old heap ===== -/
/-- a method that writes into its world -/
def pre (tE : Nat) (adK adV : Nat → Nat) (D : va_G) (ws : va_W) (tys : List (ClassId × FieldType)) (sz : Nat) (U : State) : Prop := U.heap.size = sz ∧ va_P D cls ws U.heap ∧ va_K D cls tys U ∧ va_D (fun _ => True) ws ∧ am tE adK adV (va_A ws sz) U U.heap
/-- a method that only reads it -/
def preR (tE : Nat) (adK adV : Nat → Nat) (D : va_G) (ws : va_W) (tys : List (ClassId × FieldType)) (sz : Nat) (U : State) : Prop := U.heap.size = sz ∧ va_P D cls ws U.heap ∧ va_K D cls tys U ∧ am tE adK adV (fun q : Nat => sz ≤ q) U U.heap
section PRE
variable {tE : Nat} {adK adV : Nat → Nat} {D : va_G} {ws wc : va_W} {tys tc : List (ClassId × FieldType)} {sz : Nat} {A : Nat → Prop} {s U : State} {H : Heap} {locs : List Loc}
theorem pre.blind {g : JFrame} {mk : MethodId} {a : Array Value} (h : pre tE adK adV D ws tys sz U) : pre tE adK adV D ws tys sz (U.calling g mk a) := by
  obtain ⟨h1, h2, h3, h4, h5⟩ := h
  exact ⟨h1, h2, va_K.moved (u := U) (U := U.calling g mk a) (Vm.Alike.refl U.vm) h3, h4, am.move (s := U) (U := U.calling g mk a) (State.WarmedH.refl U) h5⟩
theorem preR.blind {g : JFrame} {mk : MethodId} {a : Array Value} (h : preR tE adK adV D ws tys sz U) : preR tE adK adV D ws tys sz (U.calling g mk a) := by
  obtain ⟨h1, h2, h3, h5⟩ := h
  exact ⟨h1, h2, va_K.moved (u := U) (U := U.calling g mk a) (Vm.Alike.refl U.vm) h3, am.move (s := U) (U := U.calling g mk a) (State.WarmedH.refl U) h5⟩
theorem pre.fb {As : List Value} : FrameBlind (va_Pc As (pre tE adK adV D ws tys sz)) := fun _ _ _ _ q => ⟨q.1, q.2.blind⟩
theorem preR.fb {As : List Value} : FrameBlind (va_Pc As (preR tE adK adV D ws tys sz)) := fun _ _ _ _ q => ⟨q.1, q.2.blind⟩
theorem pre.of (hP : va_P D cls wc H) (hD : va_D A wc) (hK : va_K D cls tc s) (ham : am tE adK adV A s s.heap) (hS : va_S A s.heap H locs) (hF : ∀ q, va_A wc H.size q → A q) : ∀ V : State, V.heap = H → s.WarmedH V.vm → pre tE adK adV D wc tc H.size V := by
  intro V hV hW
  refine ⟨by rw [hV], by rw [hV]; exact hP, va_K.moved hW.alike hK, hD.weaken (fun _ _ _ _ => trivial), ?_⟩
  rw [hV]
  exact (((ham.kept hS.2.1).narrow hF).move hW)
theorem preR.of (hP : va_P D cls wc H) (hK : va_K D cls tc s) (ham : am tE adK adV A s s.heap) (hS : va_S A s.heap H locs) (hA : ∀ q, s.heap.size ≤ q → A q) : ∀ V : State, V.heap = H → s.WarmedH V.vm → preR tE adK adV D wc tc H.size V := by
  intro V hV hW
  refine ⟨by rw [hV], by rw [hV]; exact hP, va_K.moved hW.alike hK, ?_⟩
  rw [hV]
  exact (((ham.kept hS.2.1).narrow (fun q h => hA q (Nat.le_trans hS.1 h))).move hW)
theorem pre.S (h : ∀ V : State, V.heap = H → s.WarmedH V.vm → pre tE adK adV D wc tc sz V) {As : List Value} : PreS s H (va_Pc As (pre tE adK adV D wc tc sz)) As := ⟨pre.fb, fun V hV hW => ⟨rfl, h V hV hW⟩⟩
theorem preR.S (h : ∀ V : State, V.heap = H → s.WarmedH V.vm → preR tE adK adV D wc tc sz V) {As : List Value} : PreS s H (va_Pc As (preR tE adK adV D wc tc sz)) As := ⟨preR.fb, fun V hV hW => ⟨rfl, h V hV hW⟩⟩
theorem pre.V {b : Nat} {C : String} (hr : ∃ cellB : Cell, H[b]? = some cellB ∧ cellB.vm.isStatics = false ∧ s.vm.findClass C = some cellB.cls) (h : ∀ V : State, V.heap = H → s.WarmedH V.vm → pre tE adK adV D wc tc sz V) {As : List Value} : PreV s H C b (va_Pc (.ref b :: As) (pre tE adK adV D wc tc sz)) As := ⟨pre.fb, hr, fun V hV hW => ⟨rfl, h V hV hW⟩⟩
theorem preR.V {b : Nat} {C : String} (hr : ∃ cellB : Cell, H[b]? = some cellB ∧ cellB.vm.isStatics = false ∧ s.vm.findClass C = some cellB.cls) (h : ∀ V : State, V.heap = H → s.WarmedH V.vm → preR tE adK adV D wc tc sz V) {As : List Value} : PreV s H C b (va_Pc (.ref b :: As) (preR tE adK adV D wc tc sz)) As := ⟨preR.fb, hr, fun V hV hW => ⟨rfl, h V hV hW⟩⟩
/-- behind a callee that wrote nothing old: the world as it was -/
theorem ro_keep {H1 : Heap} (hP : va_P D cls ws H) (hk : ∀ q : Nat, q < H.size → ¬ (H.size ≤ q) → H1[q]? = H[q]?) : va_P D cls ws H1 := hP.kept (fun k q hq => hk q.1 (hP k q hq).lt (Nat.not_le.mpr (hP k q hq).lt))
/-- the end of a throw that wrote nothing old -/
theorem vx_end {cn : String} (hS : va_S A s.heap H locs) : ∀ t : State, s.vm.Alike t.vm → H.size ≤ t.heap.size → (∀ q : Nat, q < H.size → t.heap[q]? = H[q]?) → vx_X (fun _ : Unit => True) (fun E (_ : Unit) (_ : State) => E = cn) A cn s t :=
  fun t _ h1 h2 => ⟨(), trivial, rfl, Nat.le_trans hS.1 h1, fun q hq hn => by rw [h2 q (Nat.lt_of_lt_of_le hq hS.1)]; exact hS.2.1 q hq hn⟩
/-- .. and of a callee's throw that goes through -/
theorem vx_thru {cn E : String} (hE : E = cn) (hS : va_S A s.heap H locs) : ∀ t : State, t.heap = H → s.vm.Alike t.vm → vx_X (fun _ : Unit => True) (fun E (_ : Unit) (_ : State) => E = cn) A E s t :=
  fun t h1 _ => ⟨(), trivial, hE, by rw [h1]; exact hS.1, fun q hq hn => by rw [h1]; exact hS.2.1 q hq hn⟩
end PRE
def thr_all : List Cond := [(Cond.initialized "java/lang/Throwable"), (Cond.initialized "java/lang/Exception"), (Cond.initialized "java/lang/RuntimeException"), (Cond.initialized "java/lang/IllegalArgumentException"), (Cond.initialized "java/lang/UnsupportedOperationException"), (Cond.initialized "java/lang/IllegalStateException"), (Cond.initialized "java/lang/IndexOutOfBoundsException"), (Cond.initialized "java/util/NoSuchElementException"), (Cond.instanceMethod ({ cls := "java/lang/Object", name := "<init>", desc := "()V" } : Jvm.MethodName)), (Cond.code ({ cls := "java/lang/Object", name := "<init>", desc := "()V" } : Jvm.MethodName) object_method_1_code (1 : Nat) (Option.none : Option Jvm.ClassFile.FieldType)), (Cond.classLink "NightfallVillageLaw" (13 : Nat) "java/lang/IllegalArgumentException"), (Cond.classLink "NightfallVillageLaw" (15 : Nat) "java/lang/UnsupportedOperationException"), (Cond.classLink "NightfallVillageLaw" (17 : Nat) "java/lang/IllegalStateException"), (Cond.classLink "NightfallVillage" (76 : Nat) "java/lang/IllegalArgumentException"), (Cond.instantiable "java/lang/IllegalArgumentException" (6 : Nat)), (Cond.castable "java/lang/IllegalArgumentException" "java/lang/IllegalArgumentException"), (Cond.declares ({ cls := "java/lang/RuntimeException", name := "<init>", desc := "()V" } : Jvm.MethodName)), (Cond.declares ({ cls := "java/lang/RuntimeException", name := "<init>", desc := "(Ljava/lang/String;)V" } : Jvm.MethodName)), (Cond.declares ({ cls := "java/lang/Exception", name := "<init>", desc := "()V" } : Jvm.MethodName)), (Cond.declares ({ cls := "java/lang/Exception", name := "<init>", desc := "(Ljava/lang/String;)V" } : Jvm.MethodName)), (Cond.declares ({ cls := "java/lang/Throwable", name := "<init>", desc := "()V" } : Jvm.MethodName)), (Cond.declares ({ cls := "java/lang/Throwable", name := "<init>", desc := "(Ljava/lang/String;)V" } : Jvm.MethodName)), (Cond.selects "java/lang/IllegalArgumentException" ({ cls := "java/lang/Throwable", name := "fillInStackTrace", desc := "(I)Ljava/lang/Throwable;" } : Jvm.MethodName) ({ cls := "java/lang/Throwable", name := "fillInStackTrace", desc := "(I)Ljava/lang/Throwable;" } : Jvm.MethodName)), (Cond.selects "java/lang/IllegalArgumentException" ({ cls := "java/lang/Throwable", name := "fillInStackTrace", desc := "()Ljava/lang/Throwable;" } : Jvm.MethodName) ({ cls := "java/lang/Throwable", name := "fillInStackTrace", desc := "()Ljava/lang/Throwable;" } : Jvm.MethodName)), (Cond.lays "java/lang/IllegalArgumentException" "java/lang/Throwable" "cause" "Ljava/lang/Throwable;"), (Cond.lays "java/lang/Throwable" "java/lang/Throwable" "cause" "Ljava/lang/Throwable;"), (Cond.lays "java/lang/IllegalArgumentException" "java/lang/Throwable" "stackTrace" "[Ljava/lang/StackTraceElement;"), (Cond.lays "java/lang/Throwable" "java/lang/Throwable" "stackTrace" "[Ljava/lang/StackTraceElement;"), (Cond.lays "java/lang/IllegalArgumentException" "java/lang/Throwable" "suppressedExceptions" "Ljava/util/List;"), (Cond.lays "java/lang/Throwable" "java/lang/Throwable" "suppressedExceptions" "Ljava/util/List;"), (Cond.lays "java/lang/IllegalArgumentException" "java/lang/Throwable" "detailMessage" "Ljava/lang/String;"), (Cond.lays "java/lang/Throwable" "java/lang/Throwable" "detailMessage" "Ljava/lang/String;"), (Cond.lays "java/lang/IllegalArgumentException" "java/lang/Throwable" "backtrace" "Ljava/lang/Object;"), (Cond.lays "java/lang/Throwable" "java/lang/Throwable" "backtrace" "Ljava/lang/Object;"), (Cond.fieldLink "java/lang/Throwable" (198 : Nat) "java/lang/Throwable" "backtrace" "Ljava/lang/Object;"), (Cond.superclass "java/lang/Throwable" "java/lang/Object"), (Cond.instanceMethod ({ cls := "java/lang/Throwable", name := "<init>", desc := "()V" } : Jvm.MethodName)), (Cond.code ({ cls := "java/lang/Throwable", name := "<init>", desc := "()V" } : Jvm.MethodName) prog_34_method_1_code (1 : Nat) (Option.none : Option Jvm.ClassFile.FieldType)), (Cond.methodLink "java/lang/Throwable" (1 : Nat) ({ cls := "java/lang/Object", name := "<init>", desc := "()V" } : Jvm.MethodName)), (Cond.fieldLink "java/lang/Throwable" (13 : Nat) "java/lang/Throwable" "UNASSIGNED_STACK" "[Ljava/lang/StackTraceElement;"), (Cond.fieldLink "java/lang/Throwable" (20 : Nat) "java/lang/Throwable" "SUPPRESSED_SENTINEL" "Ljava/util/List;"), (Cond.methodLink "java/lang/Throwable" (27 : Nat) ({ cls := "java/lang/Throwable", name := "fillInStackTrace", desc := "()Ljava/lang/Throwable;" } : Jvm.MethodName)), (Cond.instanceMethod ({ cls := "java/lang/Throwable", name := "fillInStackTrace", desc := "()Ljava/lang/Throwable;" } : Jvm.MethodName)), (Cond.sameMethod "java/lang/Throwable" "java/lang/Throwable" "fillInStackTrace" "()Ljava/lang/Throwable;"), (Cond.selects "java/lang/IllegalStateException" ({ cls := "java/lang/Throwable", name := "fillInStackTrace", desc := "()Ljava/lang/Throwable;" } : Jvm.MethodName) ({ cls := "java/lang/Throwable", name := "fillInStackTrace", desc := "()Ljava/lang/Throwable;" } : Jvm.MethodName)), (Cond.selects "java/lang/IndexOutOfBoundsException" ({ cls := "java/lang/Throwable", name := "fillInStackTrace", desc := "()Ljava/lang/Throwable;" } : Jvm.MethodName) ({ cls := "java/lang/Throwable", name := "fillInStackTrace", desc := "()Ljava/lang/Throwable;" } : Jvm.MethodName)), (Cond.selects "java/lang/UnsupportedOperationException" ({ cls := "java/lang/Throwable", name := "fillInStackTrace", desc := "()Ljava/lang/Throwable;" } : Jvm.MethodName) ({ cls := "java/lang/Throwable", name := "fillInStackTrace", desc := "()Ljava/lang/Throwable;" } : Jvm.MethodName)), (Cond.selects "java/util/NoSuchElementException" ({ cls := "java/lang/Throwable", name := "fillInStackTrace", desc := "()Ljava/lang/Throwable;" } : Jvm.MethodName) ({ cls := "java/lang/Throwable", name := "fillInStackTrace", desc := "()Ljava/lang/Throwable;" } : Jvm.MethodName)), (Cond.codeSync ({ cls := "java/lang/Throwable", name := "fillInStackTrace", desc := "()Ljava/lang/Throwable;" } : Jvm.MethodName) prog_34_method_18_code (1 : Nat) (Option.some (Jvm.ClassFile.FieldType.object "java/lang/Throwable"))), (Cond.methodLink "java/lang/Throwable" (202 : Nat) ({ cls := "java/lang/Throwable", name := "fillInStackTrace", desc := "(I)Ljava/lang/Throwable;" } : Jvm.MethodName)), (Cond.privateMethod ({ cls := "java/lang/Throwable", name := "fillInStackTrace", desc := "(I)Ljava/lang/Throwable;" } : Jvm.MethodName)), (Cond.instanceMethod ({ cls := "java/lang/Throwable", name := "fillInStackTrace", desc := "(I)Ljava/lang/Throwable;" } : Jvm.MethodName)), (Cond.instantiable "java/lang/Throwable" (6 : Nat)), (Cond.native ({ cls := "java/lang/Throwable", name := "fillInStackTrace", desc := "(I)Ljava/lang/Throwable;" } : Jvm.MethodName)), (Cond.methodLink "NightfallVillage" (80 : Nat) ({ cls := "java/lang/IllegalArgumentException", name := "<init>", desc := "(Ljava/lang/String;)V" } : Jvm.MethodName)), (Cond.instanceMethod ({ cls := "java/lang/IllegalArgumentException", name := "<init>", desc := "(Ljava/lang/String;)V" } : Jvm.MethodName)), (Cond.code ({ cls := "java/lang/IllegalArgumentException", name := "<init>", desc := "(Ljava/lang/String;)V" } : Jvm.MethodName) prog_21_method_2_code (2 : Nat) (Option.none : Option Jvm.ClassFile.FieldType)), (Cond.methodLink "java/lang/IllegalArgumentException" (7 : Nat) ({ cls := "java/lang/RuntimeException", name := "<init>", desc := "(Ljava/lang/String;)V" } : Jvm.MethodName)), (Cond.instanceMethod ({ cls := "java/lang/RuntimeException", name := "<init>", desc := "(Ljava/lang/String;)V" } : Jvm.MethodName)), (Cond.code ({ cls := "java/lang/RuntimeException", name := "<init>", desc := "(Ljava/lang/String;)V" } : Jvm.MethodName) prog_29_method_2_code (2 : Nat) (Option.none : Option Jvm.ClassFile.FieldType)), (Cond.methodLink "java/lang/RuntimeException" (7 : Nat) ({ cls := "java/lang/Exception", name := "<init>", desc := "(Ljava/lang/String;)V" } : Jvm.MethodName)), (Cond.instanceMethod ({ cls := "java/lang/Exception", name := "<init>", desc := "(Ljava/lang/String;)V" } : Jvm.MethodName)), (Cond.code ({ cls := "java/lang/Exception", name := "<init>", desc := "(Ljava/lang/String;)V" } : Jvm.MethodName) prog_20_method_2_code (2 : Nat) (Option.none : Option Jvm.ClassFile.FieldType)), (Cond.methodLink "java/lang/Exception" (7 : Nat) ({ cls := "java/lang/Throwable", name := "<init>", desc := "(Ljava/lang/String;)V" } : Jvm.MethodName)), (Cond.instanceMethod ({ cls := "java/lang/Throwable", name := "<init>", desc := "(Ljava/lang/String;)V" } : Jvm.MethodName)), (Cond.code ({ cls := "java/lang/Throwable", name := "<init>", desc := "(Ljava/lang/String;)V" } : Jvm.MethodName) prog_34_method_2_code (2 : Nat) (Option.none : Option Jvm.ClassFile.FieldType)), (Cond.fieldLink "java/lang/Throwable" (31 : Nat) "java/lang/Throwable" "detailMessage" "Ljava/lang/String;"), (Cond.fieldLink "java/lang/Throwable" (7 : Nat) "java/lang/Throwable" "cause" "Ljava/lang/Throwable;"), (Cond.fieldLink "java/lang/Throwable" (17 : Nat) "java/lang/Throwable" "stackTrace" "[Ljava/lang/StackTraceElement;"), (Cond.fieldLink "java/lang/Throwable" (24 : Nat) "java/lang/Throwable" "suppressedExceptions" "Ljava/util/List;"), (Cond.soleField "java/lang/Throwable" "backtrace"), (Cond.soleField "java/lang/Throwable" "detailMessage"), (Cond.soleField "java/lang/Throwable" "cause"), (Cond.soleField "java/lang/Throwable" "stackTrace"), (Cond.lays "java/lang/IllegalArgumentException" "java/lang/Throwable" "depth" "I"), (Cond.soleField "java/lang/Throwable" "depth"), (Cond.soleField "java/lang/Throwable" "suppressedExceptions"), (Cond.superclass "java/lang/IllegalArgumentException" "java/lang/RuntimeException"), (Cond.classLink "NightfallVillage" (134 : Nat) "java/lang/UnsupportedOperationException"), (Cond.instantiable "java/lang/UnsupportedOperationException" (6 : Nat)), (Cond.castable "java/lang/UnsupportedOperationException" "java/lang/UnsupportedOperationException"), (Cond.selects "java/lang/UnsupportedOperationException" ({ cls := "java/lang/Throwable", name := "fillInStackTrace", desc := "(I)Ljava/lang/Throwable;" } : Jvm.MethodName) ({ cls := "java/lang/Throwable", name := "fillInStackTrace", desc := "(I)Ljava/lang/Throwable;" } : Jvm.MethodName)), (Cond.lays "java/lang/UnsupportedOperationException" "java/lang/Throwable" "cause" "Ljava/lang/Throwable;"), (Cond.lays "java/lang/UnsupportedOperationException" "java/lang/Throwable" "stackTrace" "[Ljava/lang/StackTraceElement;"), (Cond.lays "java/lang/UnsupportedOperationException" "java/lang/Throwable" "suppressedExceptions" "Ljava/util/List;"), (Cond.lays "java/lang/UnsupportedOperationException" "java/lang/Throwable" "detailMessage" "Ljava/lang/String;"), (Cond.lays "java/lang/UnsupportedOperationException" "java/lang/Throwable" "backtrace" "Ljava/lang/Object;"), (Cond.methodLink "NightfallVillage" (138 : Nat) ({ cls := "java/lang/UnsupportedOperationException", name := "<init>", desc := "(Ljava/lang/String;)V" } : Jvm.MethodName)), (Cond.instanceMethod ({ cls := "java/lang/UnsupportedOperationException", name := "<init>", desc := "(Ljava/lang/String;)V" } : Jvm.MethodName)), (Cond.code ({ cls := "java/lang/UnsupportedOperationException", name := "<init>", desc := "(Ljava/lang/String;)V" } : Jvm.MethodName) prog_35_method_2_code (2 : Nat) (Option.none : Option Jvm.ClassFile.FieldType)), (Cond.methodLink "java/lang/UnsupportedOperationException" (7 : Nat) ({ cls := "java/lang/RuntimeException", name := "<init>", desc := "(Ljava/lang/String;)V" } : Jvm.MethodName)), (Cond.lays "java/lang/UnsupportedOperationException" "java/lang/Throwable" "depth" "I"), (Cond.superclass "java/lang/UnsupportedOperationException" "java/lang/RuntimeException"), (Cond.classLink "NightfallVillage" (90 : Nat) "java/lang/IllegalStateException"), (Cond.instantiable "java/lang/IllegalStateException" (6 : Nat)), (Cond.castable "java/lang/IllegalStateException" "java/lang/IllegalStateException"), (Cond.selects "java/lang/IllegalStateException" ({ cls := "java/lang/Throwable", name := "fillInStackTrace", desc := "(I)Ljava/lang/Throwable;" } : Jvm.MethodName) ({ cls := "java/lang/Throwable", name := "fillInStackTrace", desc := "(I)Ljava/lang/Throwable;" } : Jvm.MethodName)), (Cond.lays "java/lang/IllegalStateException" "java/lang/Throwable" "cause" "Ljava/lang/Throwable;"), (Cond.lays "java/lang/IllegalStateException" "java/lang/Throwable" "stackTrace" "[Ljava/lang/StackTraceElement;"), (Cond.lays "java/lang/IllegalStateException" "java/lang/Throwable" "suppressedExceptions" "Ljava/util/List;"), (Cond.lays "java/lang/IllegalStateException" "java/lang/Throwable" "detailMessage" "Ljava/lang/String;"), (Cond.lays "java/lang/IllegalStateException" "java/lang/Throwable" "backtrace" "Ljava/lang/Object;"), (Cond.methodLink "NightfallVillage" (94 : Nat) ({ cls := "java/lang/IllegalStateException", name := "<init>", desc := "(Ljava/lang/String;)V" } : Jvm.MethodName)), (Cond.instanceMethod ({ cls := "java/lang/IllegalStateException", name := "<init>", desc := "(Ljava/lang/String;)V" } : Jvm.MethodName)), (Cond.code ({ cls := "java/lang/IllegalStateException", name := "<init>", desc := "(Ljava/lang/String;)V" } : Jvm.MethodName) prog_22_method_2_code (2 : Nat) (Option.none : Option Jvm.ClassFile.FieldType)), (Cond.methodLink "java/lang/IllegalStateException" (7 : Nat) ({ cls := "java/lang/RuntimeException", name := "<init>", desc := "(Ljava/lang/String;)V" } : Jvm.MethodName)), (Cond.lays "java/lang/IllegalStateException" "java/lang/Throwable" "depth" "I"), (Cond.superclass "java/lang/IllegalStateException" "java/lang/RuntimeException"), (Cond.classLink "NightfallVillageLaw" (23 : Nat) "java/lang/IndexOutOfBoundsException"), (Cond.classLink "NightfallVillage" (301 : Nat) "java/lang/IndexOutOfBoundsException"), (Cond.instantiable "java/lang/IndexOutOfBoundsException" (6 : Nat)), (Cond.castable "java/lang/IndexOutOfBoundsException" "java/lang/IndexOutOfBoundsException"), (Cond.selects "java/lang/IndexOutOfBoundsException" ({ cls := "java/lang/Throwable", name := "fillInStackTrace", desc := "(I)Ljava/lang/Throwable;" } : Jvm.MethodName) ({ cls := "java/lang/Throwable", name := "fillInStackTrace", desc := "(I)Ljava/lang/Throwable;" } : Jvm.MethodName)), (Cond.lays "java/lang/IndexOutOfBoundsException" "java/lang/Throwable" "cause" "Ljava/lang/Throwable;"), (Cond.lays "java/lang/IndexOutOfBoundsException" "java/lang/Throwable" "stackTrace" "[Ljava/lang/StackTraceElement;"), (Cond.lays "java/lang/IndexOutOfBoundsException" "java/lang/Throwable" "suppressedExceptions" "Ljava/util/List;"), (Cond.lays "java/lang/IndexOutOfBoundsException" "java/lang/Throwable" "detailMessage" "Ljava/lang/String;"), (Cond.lays "java/lang/IndexOutOfBoundsException" "java/lang/Throwable" "backtrace" "Ljava/lang/Object;"), (Cond.methodLink "NightfallVillage" (305 : Nat) ({ cls := "java/lang/IndexOutOfBoundsException", name := "<init>", desc := "(Ljava/lang/String;)V" } : Jvm.MethodName)), (Cond.instanceMethod ({ cls := "java/lang/IndexOutOfBoundsException", name := "<init>", desc := "(Ljava/lang/String;)V" } : Jvm.MethodName)), (Cond.code ({ cls := "java/lang/IndexOutOfBoundsException", name := "<init>", desc := "(Ljava/lang/String;)V" } : Jvm.MethodName) prog_23_method_2_code (2 : Nat) (Option.none : Option Jvm.ClassFile.FieldType)), (Cond.methodLink "java/lang/IndexOutOfBoundsException" (7 : Nat) ({ cls := "java/lang/RuntimeException", name := "<init>", desc := "(Ljava/lang/String;)V" } : Jvm.MethodName)), (Cond.lays "java/lang/IndexOutOfBoundsException" "java/lang/Throwable" "depth" "I"), (Cond.superclass "java/lang/IndexOutOfBoundsException" "java/lang/RuntimeException"), (Cond.classLink "NightfallVillageLaw" (53 : Nat) "java/util/NoSuchElementException"), (Cond.classLink "NightfallVillage" (200 : Nat) "java/util/NoSuchElementException"), (Cond.instantiable "java/util/NoSuchElementException" (6 : Nat)), (Cond.castable "java/util/NoSuchElementException" "java/util/NoSuchElementException"), (Cond.selects "java/util/NoSuchElementException" ({ cls := "java/lang/Throwable", name := "fillInStackTrace", desc := "(I)Ljava/lang/Throwable;" } : Jvm.MethodName) ({ cls := "java/lang/Throwable", name := "fillInStackTrace", desc := "(I)Ljava/lang/Throwable;" } : Jvm.MethodName)), (Cond.lays "java/util/NoSuchElementException" "java/lang/Throwable" "cause" "Ljava/lang/Throwable;"), (Cond.lays "java/util/NoSuchElementException" "java/lang/Throwable" "stackTrace" "[Ljava/lang/StackTraceElement;"), (Cond.lays "java/util/NoSuchElementException" "java/lang/Throwable" "suppressedExceptions" "Ljava/util/List;"), (Cond.lays "java/util/NoSuchElementException" "java/lang/Throwable" "detailMessage" "Ljava/lang/String;"), (Cond.lays "java/util/NoSuchElementException" "java/lang/Throwable" "backtrace" "Ljava/lang/Object;"), (Cond.methodLink "NightfallVillage" (204 : Nat) ({ cls := "java/util/NoSuchElementException", name := "<init>", desc := "(Ljava/lang/String;)V" } : Jvm.MethodName)), (Cond.instanceMethod ({ cls := "java/util/NoSuchElementException", name := "<init>", desc := "(Ljava/lang/String;)V" } : Jvm.MethodName)), (Cond.code ({ cls := "java/util/NoSuchElementException", name := "<init>", desc := "(Ljava/lang/String;)V" } : Jvm.MethodName) prog_46_method_4_code (2 : Nat) (Option.none : Option Jvm.ClassFile.FieldType)), (Cond.methodLink "java/util/NoSuchElementException" (13 : Nat) ({ cls := "java/lang/RuntimeException", name := "<init>", desc := "(Ljava/lang/String;)V" } : Jvm.MethodName)), (Cond.lays "java/util/NoSuchElementException" "java/lang/Throwable" "depth" "I"), (Cond.superclass "java/util/NoSuchElementException" "java/lang/RuntimeException"), (Cond.selects "java/lang/IllegalArgumentException" ({ cls := "java/lang/Object", name := "getClass", desc := "()Ljava/lang/Class;" } : Jvm.MethodName) ({ cls := "java/lang/Object", name := "getClass", desc := "()Ljava/lang/Class;" } : Jvm.MethodName)), (Cond.selects "java/lang/IllegalStateException" ({ cls := "java/lang/Object", name := "getClass", desc := "()Ljava/lang/Class;" } : Jvm.MethodName) ({ cls := "java/lang/Object", name := "getClass", desc := "()Ljava/lang/Class;" } : Jvm.MethodName)), (Cond.selects "java/lang/IndexOutOfBoundsException" ({ cls := "java/lang/Object", name := "getClass", desc := "()Ljava/lang/Class;" } : Jvm.MethodName) ({ cls := "java/lang/Object", name := "getClass", desc := "()Ljava/lang/Class;" } : Jvm.MethodName)), (Cond.selects "java/lang/UnsupportedOperationException" ({ cls := "java/lang/Object", name := "getClass", desc := "()Ljava/lang/Class;" } : Jvm.MethodName) ({ cls := "java/lang/Object", name := "getClass", desc := "()Ljava/lang/Class;" } : Jvm.MethodName)), (Cond.selects "java/util/NoSuchElementException" ({ cls := "java/lang/Object", name := "getClass", desc := "()Ljava/lang/Class;" } : Jvm.MethodName) ({ cls := "java/lang/Object", name := "getClass", desc := "()Ljava/lang/Class;" } : Jvm.MethodName)), (Cond.classLink "java/util/ArrayList$Itr" (34 : Nat) "java/util/NoSuchElementException"), (Cond.methodLink "java/util/ArrayList$Itr" (36 : Nat) ({ cls := "java/util/NoSuchElementException", name := "<init>", desc := "()V" } : Jvm.MethodName)), (Cond.instanceMethod ({ cls := "java/util/NoSuchElementException", name := "<init>", desc := "()V" } : Jvm.MethodName)), (Cond.code ({ cls := "java/util/NoSuchElementException", name := "<init>", desc := "()V" } : Jvm.MethodName) prog_46_method_1_code (1 : Nat) (Option.none : Option Jvm.ClassFile.FieldType)), (Cond.methodLink "java/util/NoSuchElementException" (1 : Nat) ({ cls := "java/lang/RuntimeException", name := "<init>", desc := "()V" } : Jvm.MethodName)), (Cond.instanceMethod ({ cls := "java/lang/RuntimeException", name := "<init>", desc := "()V" } : Jvm.MethodName)), (Cond.code ({ cls := "java/lang/RuntimeException", name := "<init>", desc := "()V" } : Jvm.MethodName) prog_29_method_1_code (1 : Nat) (Option.none : Option Jvm.ClassFile.FieldType)), (Cond.methodLink "java/lang/RuntimeException" (1 : Nat) ({ cls := "java/lang/Exception", name := "<init>", desc := "()V" } : Jvm.MethodName)), (Cond.instanceMethod ({ cls := "java/lang/Exception", name := "<init>", desc := "()V" } : Jvm.MethodName)), (Cond.code ({ cls := "java/lang/Exception", name := "<init>", desc := "()V" } : Jvm.MethodName) prog_20_method_1_code (1 : Nat) (Option.none : Option Jvm.ClassFile.FieldType)), (Cond.methodLink "java/lang/Exception" (1 : Nat) ({ cls := "java/lang/Throwable", name := "<init>", desc := "()V" } : Jvm.MethodName)), (Cond.sameMethod "java/lang/Throwable" "java/lang/Throwable" "fillInStackTrace" "(I)Ljava/lang/Throwable;")]
theorem thr_eq : thr_all = ([17, 18, 19, 20, 21, 22, 32, 38, 45, 46, 683, 684, 685, 696, 697, 698, 699, 700, 701, 702, 703, 704, 705, 706, 707, 708, 709, 710, 711, 712, 713, 714, 715, 716, 717, 718, 719, 720, 721, 722, 724, 726, 727, 728, 729, 730, 731, 732, 733, 734, 735, 736, 737, 738, 740, 741, 742, 743, 744, 745, 746, 747, 748, 749, 750, 751, 753, 754, 755, 756, 757, 758, 759, 760, 761, 762, 763, 764, 770, 771, 772, 773, 774, 775, 776, 777, 778, 780, 781, 782, 783, 784, 785, 786, 787, 788, 789, 790, 791, 792, 793, 794, 796, 797, 798, 799, 800, 801, 809, 819, 820, 821, 822, 823, 824, 825, 826, 827, 829, 830, 831, 832, 833, 834, 957, 962, 963, 964, 965, 966, 967, 968, 969, 970, 972, 973, 974, 975, 976, 977, 1572, 1573, 1574, 1576, 1579, 1757, 1758, 1759, 1760, 1761, 1762, 1763, 1764, 1765, 1766, 1767, 1998] : List Nat).filterMap (fun i => tables_1[i]?) := by decide +kernel
theorem thr_ok : thr_all.all ok_w = true := by decide +kernel
theorem thr_in {w : Cond} (h : decide (w ∈ thr_all) = true) : w ∈ tw := by
  have h0 : w ∈ thr_all := of_decide_eq_true h
  have h1 := List.all_eq_true.mp thr_ok w h0
  rw [thr_eq] at h0
  obtain ⟨i, -, hi⟩ := List.mem_filterMap.mp h0
  exact tw_in (i := i) hi h1
